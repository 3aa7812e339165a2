/-- a stone laid behind m others -/
def astA (A : Nat → Nat → Int32) (m : Nat) (p b : Int32) : Nat → Nat → Int32 := (aset (aset (aset (aset (aset (aset (aset (aset (aset (aset A 21 (10 * m + 0) p) 21 (10 * m + 1) b) 21 (10 * m + 2) (-1)) 21 (10 * m + 3) (-1)) 22 (6 * m + 0) (-1)) 22 (6 * m + 1) (-1)) 22 (6 * m + 2) (-1)) 22 (6 * m + 3) (-1)) 22 (6 * m + 4) (-1)) 22 (6 * m + 5) (-1))
theorem ast_r {A : Nat → Nat → Int32} {m : Nat} {p b : Int32} {k : Nat} (h1 : k ≠ 21) (h2 : k ≠ 22) : astA A m p b k = A k := by
  funext i
  unfold astA
  rw [aset_ne _ _ (fun q => by omega), aset_ne _ _ (fun q => by omega), aset_ne _ _ (fun q => by omega), aset_ne _ _ (fun q => by omega), aset_ne _ _ (fun q => by omega), aset_ne _ _ (fun q => by omega), aset_ne _ _ (fun q => by omega), aset_ne _ _ (fun q => by omega), aset_ne _ _ (fun q => by omega), aset_ne _ _ (fun q => by omega)]
theorem ast_21 {A : Nat → Nat → Int32} {m i : Nat} {p b : Int32} (h : i < 10 * m ∨ 10 * m + 4 ≤ i) : astA A m p b 21 i = A 21 i := by
  unfold astA
  rw [aset_ne _ _ (fun q => by omega), aset_ne _ _ (fun q => by omega), aset_ne _ _ (fun q => by omega), aset_ne _ _ (fun q => by omega), aset_ne _ _ (fun q => by omega), aset_ne _ _ (fun q => by omega), aset_ne _ _ (fun q => by omega), aset_ne _ _ (fun q => by omega), aset_ne _ _ (fun q => by omega), aset_ne _ _ (fun q => by omega)]
theorem ast_22 {A : Nat → Nat → Int32} {m i : Nat} {p b : Int32} (h : i < 6 * m) : astA A m p b 22 i = A 22 i := by
  unfold astA
  rw [aset_ne _ _ (fun q => by omega), aset_ne _ _ (fun q => by omega), aset_ne _ _ (fun q => by omega), aset_ne _ _ (fun q => by omega), aset_ne _ _ (fun q => by omega), aset_ne _ _ (fun q => by omega), aset_ne _ _ (fun q => by omega), aset_ne _ _ (fun q => by omega), aset_ne _ _ (fun q => by omega), aset_ne _ _ (fun q => by omega)]
theorem ast_at {A : Nat → Nat → Int32} {m : Nat} {p b : Int32} : astA A m p b 21 (10 * m) = p ∧ astA A m p b 21 (10 * m + 1) = b ∧ astA A m p b 21 (10 * m + 2) = -1 ∧ astA A m p b 21 (10 * m + 3) = -1 := by
  simp [astA, aset]
theorem ast_h {A : Nat → Nat → Int32} {m : Nat} {p b : Int32} : ∀ c, c < 6 → astA A m p b 22 (6 * m + c) = -1 := by
  intro c hc
  match c, hc with
  | 0, _ => simp [astA, aset]
  | 1, _ => simp [astA, aset]
  | 2, _ => simp [astA, aset]
  | 3, _ => simp [astA, aset]
  | 4, _ => simp [astA, aset]
  | 5, _ => simp [astA, aset]
abbrev stE (A : Nat → Nat → Int32) (ad : Nat → Nat → Nat) (j : Nat) : va_E := .inr (8, [.int (A 21 (10 * j)), .int (A 21 (10 * j + 1)), .ref (ad 17 j), .ref (ad 18 j), .int (A 21 (10 * j + 2)), .int (A 21 (10 * j + 3))])
abbrev rwE (E : Ev) (R : Nat → Nat → Nat → Int32) (c j : Nat) : va_E := .inl (E.2.2 1, 6, .inl (R c j))
theorem dX10_stone_0 : decode cX10_stone 0 = .ok (.aload_n 0, 1) := by decide +kernel
theorem dX10_stone_1 : decode cX10_stone 1 = .ok (.iload_n 1, 1) := by decide +kernel
theorem dX10_stone_2 : decode cX10_stone 2 = .ok (.invokevirtual 113, 3) := by decide +kernel
theorem dX10_stone_5 : decode cX10_stone 5 = .ok (.astore_n 3, 1) := by decide +kernel
theorem dX10_stone_6 : decode cX10_stone 6 = .ok (.iload_n 2, 1) := by decide +kernel
theorem dX10_stone_7 : decode cX10_stone 7 = .ok (.ifCond .lt 9, 3) := by decide +kernel
theorem dX10_stone_10 : decode cX10_stone 10 = .ok (.iload_n 2, 1) := by decide +kernel
theorem dX10_stone_11 : decode cX10_stone 11 = .ok (.bipush 99, 2) := by decide +kernel
theorem dX10_stone_13 : decode cX10_stone 13 = .ok (.if_icmp .le 13, 3) := by decide +kernel
theorem dX10_stone_16 : decode cX10_stone 16 = .ok (.new 57, 3) := by decide +kernel
theorem dX10_stone_19 : decode cX10_stone 19 = .ok (.dup, 1) := by decide +kernel
theorem dX10_stone_20 : decode cX10_stone 20 = .ok (.ldc 171, 2) := by decide +kernel
theorem dX10_stone_22 : decode cX10_stone 22 = .ok (.invokespecial 61, 3) := by decide +kernel
theorem dX10_stone_25 : decode cX10_stone 25 = .ok (.athrow, 1) := by decide +kernel
theorem dX10_stone_26 : decode cX10_stone 26 = .ok (.aload_n 3, 1) := by decide +kernel
theorem dX10_stone_27 : decode cX10_stone 27 = .ok (.getfield 154, 3) := by decide +kernel
theorem dX10_stone_30 : decode cX10_stone 30 = .ok (.iconst (-1), 1) := by decide +kernel
theorem dX10_stone_31 : decode cX10_stone 31 = .ok (.if_icmp .eq 10, 3) := by decide +kernel
theorem dX10_stone_34 : decode cX10_stone 34 = .ok (.aload_n 3, 1) := by decide +kernel
theorem dX10_stone_35 : decode cX10_stone 35 = .ok (.getfield 154, 3) := by decide +kernel
theorem dX10_stone_38 : decode cX10_stone 38 = .ok (.ifCond .ne 13, 3) := by decide +kernel
theorem dX10_stone_41 : decode cX10_stone 41 = .ok (.new 173, 3) := by decide +kernel
theorem dX10_stone_44 : decode cX10_stone 44 = .ok (.dup, 1) := by decide +kernel
theorem dX10_stone_45 : decode cX10_stone 45 = .ok (.ldc 175, 2) := by decide +kernel
theorem dX10_stone_47 : decode cX10_stone 47 = .ok (.invokespecial 177, 3) := by decide +kernel
theorem dX10_stone_50 : decode cX10_stone 50 = .ok (.athrow, 1) := by decide +kernel
theorem dX10_stone_51 : decode cX10_stone 51 = .ok (.aload_n 0, 1) := by decide +kernel
theorem dX10_stone_52 : decode cX10_stone 52 = .ok (.getfield 26, 3) := by decide +kernel
theorem dX10_stone_55 : decode cX10_stone 55 = .ok (.invokevirtual 178, 3) := by decide +kernel
theorem dX10_stone_58 : decode cX10_stone 58 = .ok (.bipush 60, 2) := by decide +kernel
theorem dX10_stone_60 : decode cX10_stone 60 = .ok (.if_icmp .lt 13, 3) := by decide +kernel
theorem dX10_stone_63 : decode cX10_stone 63 = .ok (.new 101, 3) := by decide +kernel
theorem dX10_stone_66 : decode cX10_stone 66 = .ok (.dup, 1) := by decide +kernel
theorem dX10_stone_67 : decode cX10_stone 67 = .ok (.ldc 181, 2) := by decide +kernel
theorem dX10_stone_69 : decode cX10_stone 69 = .ok (.invokespecial 105, 3) := by decide +kernel
theorem dX10_stone_72 : decode cX10_stone 72 = .ok (.athrow, 1) := by decide +kernel
theorem dX10_stone_73 : decode cX10_stone 73 = .ok (.aload_n 0, 1) := by decide +kernel
theorem dX10_stone_74 : decode cX10_stone 74 = .ok (.getfield 26, 3) := by decide +kernel
theorem dX10_stone_77 : decode cX10_stone 77 = .ok (.iload_n 1, 1) := by decide +kernel
theorem dX10_stone_78 : decode cX10_stone 78 = .ok (.iload_n 2, 1) := by decide +kernel
theorem dX10_stone_79 : decode cX10_stone 79 = .ok (.invokevirtual 183, 3) := by decide +kernel
theorem dX10_stone_82 : decode cX10_stone 82 = .ok (.ireturn, 1) := by decide +kernel
set_option maxHeartbeats 4000000 in
set_option maxRecDepth 20000 in
theorem cw_stone {l : Launch} {E : Ev} {P : Value → AH → Prop} {PX : String → AH → Prop}  {x o ou n m : Nat} {F : Nat → Int32} {A : Nat → Nat → Int32} {Fm : Nat → Int32} {Am : Nat → Nat → Int32} {h : AH} (I9 : WI E x o ou F A n m Fm Am h) {p b : Int32} (hl9 : l.stackTraces = false) (kx1 : p < 0 ∨ F 9 - 1 < p → PX "java/lang/IndexOutOfBoundsException" h) (kx2 : ∀ j, j < n → p = nI j → (b < 0 ∨ 99 < b) → PX "java/lang/IllegalArgumentException" h) (kx3 : ∀ j, j < n → p = nI j → ¬ (b < 0 ∨ 99 < b) → ¬ 0 < A 5 j → PX "java/lang/IllegalStateException" h) (kx4 : ∀ j, j < n → p = nI j → ¬ (b < 0 ∨ 99 < b) → 0 < A 5 j → m = 60 → PX "java/lang/UnsupportedOperationException" h) (k5 : ∀ j, j < n → p = nI j → ¬ (b < 0 ∨ 99 < b) → 0 < A 5 j → m < 60 → ∀ h1, WI E x o ou (upd (upd F 0 0) 23 (nI (m + 1))) (astA A m p b) n (m + 1) Fm Am h1 → P (.int (nI m)) h1) : Mx l E yX10_stone cX10_stone 4 (some .int) 8 174 6 136 [.ref x, .int p, .int b] (h) P PX := by
  refine Mx.of (by decide) (Nat.le_of_ble_eq_true rfl) ?_
  intro K hK hR htab C
  obtain ⟨ad, R, z, N, f, O, W, X, rfl, rfl, rfl⟩ := I9
  have hx : h (ad 0 0) = some (.inr (10, [.ref (ad 1 0), .ref (ad 3 0), .ref (ad 10 0), .ref (ad 20 0), .int (F 19)])) := W.at 0 0 rfl
  have hk : h (ad 3 0) = some (.inr (2, [.ref (ad 4 0), .ref (ad 6 0), .ref (ad 7 0), .ref (ad 8 0), .int (F 2), .int (F 1)])) := W.at 3 0 rfl
  have hmk : h (ad 10 0) = some (.inr (4, [.ref (ad 11 0), .ref (ad 13 0), .ref (ad 14 0), .int (F 24), .int (z 3)])) := W.at 10 0 rfl
  have he2 : h (ad 11 0) = some (.inr (0, [.int (z 1), .ref (ad 12 0), .int (nI m)])) := W.at 11 0 rfl
  obtain ⟨hd, hnN, hN, hpa, hal⟩ := w_list W X
  obtain ⟨hd2, hmN, hN2, hst, hal2⟩ := w_list2 W X
  have hm60 := X.1.2.2.2
  refine g_aload_n (n := 1) C dX10_stone_0 rfl rfl ?_
  refine g_iload_n (n := 2) C dX10_stone_1 rfl rfl ?_
  refine g_callVx (n := 5) (As := [.int _]) C dX10_stone_2 rfl mw_X10_pitOf w_843 (g_recv C hx rfl) rfl rfl (room hR rfl) (cw_pitOf W X (by rw [hK]; exact hl9) (fun j hj ej => ?_) (fun zx2 => ?_))
  · --k2.0
    subst ej
    have hpb := (hpa j hj).2
    refine g_astore_n (n := 6) C dX10_stone_5 rfl (by decide) ?_
    refine g_iload_n (n := 7) C dX10_stone_6 rfl rfl ?_
    refine g_if_lt (n := 10) (t := 16) C dX10_stone_7 rfl (by decide) (fun zc7 => ?_) (fun zc7 => ?_)
    · --t7
      refine g_throw (x := "java/lang/IllegalArgumentException") (text := "a basket is 0 to 99") (names := ["java/lang/RuntimeException", "java/lang/Exception"]) (ik := 57) (is := 171) (ic := 61) (key := 209) C (by rw [hK]; exact hl9) htab dX10_stone_16 rfl dX10_stone_19 rfl dX10_stone_20 rfl dX10_stone_22 rfl dX10_stone_25 (by decide +kernel) (by decide +kernel) w_422 w_50 (List.mem_of_getElem? (i := 20) rfl) (hat_IAE w_466) (hgood_of w_422 w_50 (hat_IAE w_466)) (roomT hR rfl) ?_
      first | exact kx2 j hj rfl (Or.inl zc7) | exact kx2 j hj rfl (Or.inr (Int32.not_le.mp zc13))
    · --f7
      refine g_iload_n (n := 11) C dX10_stone_10 rfl rfl ?_
      refine g_bipush (n := 13) (v := 99) C dX10_stone_11 rfl (by decide) ?_
      refine g_icmp_le (n := 16) (t := 26) C dX10_stone_13 rfl (by decide) (fun zc13 => ?_) (fun zc13 => ?_)
      · --t13
        refine g_aload_n (n := 27) C dX10_stone_26 rfl rfl ?_
        refine g_get (n := 30) (T := TX5) C 4 dX10_stone_27 rfl hpb rfl rfl (by decide) inX5 w_760 rfl ?_
        refine g_iconst (n := 31) (v := (-1)) C dX10_stone_30 rfl (by decide) ?_
        refine g_icmp_eq (n := 34) (t := 41) C dX10_stone_31 rfl (by decide) (fun zc31 => ?_) (fun zc31 => ?_)
        · --t31
          refine g_throw (x := "java/lang/IllegalStateException") (text := "the pit found nothing") (names := ["java/lang/RuntimeException", "java/lang/Exception"]) (ik := 173) (is := 175) (ic := 177) (key := 210) C (by rw [hK]; exact hl9) htab dX10_stone_41 rfl dX10_stone_44 rfl dX10_stone_45 rfl dX10_stone_47 rfl dX10_stone_50 (by decide +kernel) (by decide +kernel) w_930 w_64 (List.mem_of_getElem? (i := 21) rfl) (hat_ISE w_940) (hgood_of w_930 w_64 (hat_ISE w_940)) (roomT hR rfl) ?_
          first | exact kx3 j hj rfl (fun q => q.elim zc7 (fun y => Int32.not_le.mpr y zc13)) (by rw [zc31]; decide) | exact kx3 j hj rfl (fun q => q.elim zc7 (fun y => Int32.not_le.mpr y zc13)) (by rw [zc38]; decide)
        · --f31
          refine g_aload_n (n := 35) C dX10_stone_34 rfl rfl ?_
          refine g_get (n := 38) (T := TX5) C 4 dX10_stone_35 rfl hpb rfl rfl (by decide) inX5 w_760 rfl ?_
          refine g_if_ne (n := 41) (t := 51) C dX10_stone_38 rfl (by decide) (fun zc38 => ?_) (fun zc38 => ?_)
          · --t38
            refine g_aload_n (n := 52) C dX10_stone_51 rfl rfl ?_
            refine g_get (n := 55) (T := TX10) C 2 dX10_stone_52 rfl hx rfl rfl (by decide) inX10 w_236 rfl ?_
            refine g_callV (n := 58) (As := []) C dX10_stone_55 rfl mw_X4_stones w_380 (g_recv C hmk rfl) rfl rfl (room hR rfl) (cc_mstones hmk he2 ?_)
            refine g_bipush (n := 60) (v := 60) C dX10_stone_58 rfl (by decide) ?_
            refine g_icmp_lt (n := 63) (t := 73) C dX10_stone_60 rfl (by decide) (fun zc60 => ?_) (fun zc60 => ?_)
            · --t60
              have hmlt : m < 60 := by
                rcases Nat.lt_or_ge m 60 with q | q
                · exact q
                · exact absurd zc60 (Int32.not_lt.mpr (nI_le q (by omega)))
              refine g_aload_n (n := 74) C dX10_stone_73 rfl rfl ?_
              refine g_get (n := 77) (T := TX10) C 2 dX10_stone_74 rfl hx rfl rfl (by decide) inX10 w_236 rfl ?_
              refine g_iload_n (n := 78) C dX10_stone_77 rfl rfl ?_
              refine g_iload_n (n := 79) C dX10_stone_78 rfl rfl ?_
              refine g_callV (n := 82) (As := [.int _, .int _]) C dX10_stone_79 rfl mw_X4_addStone w_947 (g_recv C hmk rfl) rfl rfl (room hR rfl) (cc_addStone hmk he2 hal2 (by omega) (fun q9 hs9 sh9 e9 M9 g9 hms hmh hfq hfhs hfsh hze hea hz1 hz2 hz3 => ?_))
              refine g_x ?_
              refine g_iret C dX10_stone_82 (by decide) (by decide) ?_
              have hpos : 0 < A 5 j := by
                rcases (X.2.2.2.2.2.2.2.2.2.2.2.2.1 j hj).1 with q | q
                · exact absurd q zc31
                · exact Int32.lt_of_le_of_ne q (fun y => zc38 y.symm)
              rw [LW_cons, LW_cons, LW_cons, LW_nil] at hze ⊢
              dsimp only at hze ⊢
              have hqs : hs9 ≠ sh9 := fun q => hmh (by rw [q]; exact List.mem_cons_of_mem _ List.mem_cons_self)
              have hqq : q9 ≠ sh9 := fun q => hmh (by rw [q]; exact List.mem_cons_self)
              have hqh : q9 ≠ hs9 := fun q => hms (by rw [q]; exact List.mem_cons_self)
              have W1 := W.manynew 18 (g := rwE E R 18) (rwE E (rset (rset R 18 m (fun _ => 0)) 17 m (flf (fun _ => 0) (-1) 6)) 18) (.inl (E.2.2 1, 6, .inl (fun _ => 0))) hfsh rfl (fun i hi => by simp [rset, show i ≠ m from by omega]) (by simp [rset])
              have W2 := W1.manynew 17 (g := rwE E R 17) (rwE E (rset (rset R 18 m (fun _ => 0)) 17 m (flf (fun _ => 0) (-1) 6)) 17) (.inl (E.2.2 1, 6, .inl (flf (fun _ => 0) (-1) 6))) ((hset_ne _ _ hqs).trans hfhs) rfl (fun i hi => by simp [rset, show i ≠ m from by omega]) (by simp [rset])
              have W3 := W2.manynew 16 (g := stE A ad) (stE (astA A m (nI j) b) (adset (adset (adset ad 18 m sh9) 17 m hs9) 16 m q9)) (.inr (8, [.int (nI j), .int b, .ref hs9, .ref sh9, .int (-1), .int (-1)])) ((hset_ne _ _ hqh).trans ((hset_ne _ _ hqq).trans hfq)) rfl (fun i hi => by
                unfold stE
                rw [ast_21 (Or.inl (by omega)), ast_21 (Or.inl (by omega)), ast_21 (Or.inl (by omega)), ast_21 (Or.inl (by omega))]
                simp [adset, show i ≠ m from by omega]) (by
                unfold stE
                rw [ast_at.1, ast_at.2.1, ast_at.2.2.1, ast_at.2.2.2]
                simp [adset])
              have hlst : ∀ i, i < m + 1 → va_up g9 m (some q9) i = some ((adset (adset (adset ad 18 m sh9) 17 m hs9) 16 m q9) 16 i) := fun i hi => by
                by_cases c : i = m
                · subst c
                  simp [va_up, adset]
                · have h9 := X.2.2.2.2.2.1.2.2.2 i (by omega)
                  rw [← hz3 i (by omega)] at h9
                  simp [va_up, adset, c, h9]
              have hst9 : ∀ i, i < m + 1 → (∀ c, c < 6 → (rset (rset R 18 m (fun _ => 0)) 17 m (flf (fun _ => 0) (-1) 6)) 17 i c = astA A m (nI j) b 22 (6 * i + c) ∧ (astA A m (nI j) b 22 (6 * i + c) = -1 ∨ (0 ≤ astA A m (nI j) b 22 (6 * i + c) ∧ astA A m (nI j) b 22 (6 * i + c) ≤ 1000000))) ∧ (∀ k, k < 6 → (rset (rset R 18 m (fun _ => 0)) 17 m (flf (fun _ => 0) (-1) 6)) 18 i k = astA A m (nI j) b 21 (10 * i + 4 + k)) ∧ (astA A m (nI j) b 21 (10 * i + 2) = -1 ∨ 0 ≤ astA A m (nI j) b 21 (10 * i + 2)) ∧ (astA A m (nI j) b 21 (10 * i + 2) < 0 → ∀ k, k < 6 → astA A m (nI j) b 21 (10 * i + 4 + k) = 0) := fun i hi => by
                by_cases ci : i = m
                · subst ci
                  have h21 : ∀ k, k < 6 → astA A i (nI j) b 21 (10 * i + 4 + k) = 0 := fun k hk => by
                    rw [ast_21 (Or.inr (by omega))]
                    exact X.2.2.2.2.2.2.2.2.2.2.1.2 _ (by omega)
                  refine ⟨fun c hc => ?_, fun k hk => ?_, Or.inl ast_at.2.2.1, fun _ k hk => h21 k hk⟩
                  · rw [ast_h c hc]
                    refine ⟨?_, Or.inl rfl⟩
                    show (if 17 = 17 then (if i = i then flf (fun _ => 0) (-1) 6 else _) else _) c = _
                    rw [if_pos rfl, if_pos rfl]
                    exact if_pos hc
                  · rw [h21 k hk]
                    simp [rset]
                · obtain ⟨h1, h2, h3, h4⟩ := X.2.2.2.2.2.2.2.2.2.1 i (by omega)
                  refine ⟨fun c hc => ?_, fun k hk => ?_, ?_, fun h k hk => ?_⟩
                  · rw [ast_22 (by omega)]
                    simpa [rset, ci] using h1 c hc
                  · rw [ast_21 (Or.inl (by omega)), ← h2 k hk]
                    simp [rset, ci]
                  · rw [ast_21 (Or.inl (by omega))]
                    exact h3
                  · rw [ast_21 (Or.inl (by omega))] at h ⊢
                    exact h4 h k hk
              have hz9 : z 3 = rcnt (fun i => ¬ astA A m (nI j) b 21 (10 * i + 2) < 0) (m + 1) ∧ ∀ i, 10 * (m + 1) ≤ i → astA A m (nI j) b 21 i = 0 := by
                refine ⟨?_, fun i hi => ?_⟩
                · rw [← rcnt_k (by rw [ast_at.2.2.1]; decide), X.2.2.2.2.2.2.2.2.2.2.1.1]
                  exact rcnt_c m (fun i hi => by rw [ast_21 (Or.inl (by omega))])
                · rw [ast_21 (Or.inr (by omega))]
                  exact X.2.2.2.2.2.2.2.2.2.2.1.2 i (by omega)
              rcases hze with ⟨rfl, h1N⟩ | hze
              · have W4 := (W3.lst 12 (N := N 1) (M := M9) (va_up g9 m (some q9)) rfl h1N (by omega)).one 11 (.inr (0, [.int (z 1 + 1), .ref (ad 12 0), .int (nI (m + 1))])) rfl
                exact k5 j hj rfl (fun q => q.elim zc7 (fun y => Int32.not_le.mpr y zc13)) hpos hmlt _ ⟨adset (adset (adset ad 18 m sh9) 17 m hs9) 16 m q9, (rset (rset R 18 m (fun _ => 0)) 17 m (flf (fun _ => 0) (-1) 6)), nset z 1 (z 1 + 1), nset N 1 M9, nset f 1 (va_up g9 m (some q9)), O, (W4).cast rfl, ⟨⟨X.1.1, X.1.2.1, rfl, by omega⟩, X.2.1, X.2.2.1, fun q hq => ⟨(X.2.2.2.1 q hq).1.trans (rlow_c (A := A) (B := (astA A m (nI j) b)) n (fun i _ => ⟨rfl, rfl⟩)), (X.2.2.2.1 q hq).2.trans (rhigh_c (A := A) (B := (astA A m (nI j) b)) n (fun i _ => ⟨rfl, rfl⟩))⟩, X.2.2.2.2.1, ⟨hz1, hz2, fun q => absurd (show M9 = 0 from q) (by omega), fun i hi => hlst i hi⟩, X.2.2.2.2.2.2.1, X.2.2.2.2.2.2.2.1, X.2.2.2.2.2.2.2.2.1, hst9, hz9, X.2.2.2.2.2.2.2.2.2.2.2.1, X.2.2.2.2.2.2.2.2.2.2.2.2.1, X.2.2.2.2.2.2.2.2.2.2.2.2.2⟩, rfl, rfl, rfl⟩
              · have W4 := (W3.lstnew 12 (N := N 1) (M := M9) (va_up g9 m (some q9)) hze rfl (by omega)).one 11 (.inr (0, [.int (z 1 + 1), .ref e9, .int (nI (m + 1))])) rfl
                exact k5 j hj rfl (fun q => q.elim zc7 (fun y => Int32.not_le.mpr y zc13)) hpos hmlt _ ⟨adset (adset (adset (adset ad 18 m sh9) 17 m hs9) 16 m q9) 12 0 e9, (rset (rset R 18 m (fun _ => 0)) 17 m (flf (fun _ => 0) (-1) 6)), nset z 1 (z 1 + 1), nset N 1 M9, nset f 1 (va_up g9 m (some q9)), O, (W4).cast rfl, ⟨⟨X.1.1, X.1.2.1, rfl, by omega⟩, X.2.1, X.2.2.1, fun q hq => ⟨(X.2.2.2.1 q hq).1.trans (rlow_c (A := A) (B := (astA A m (nI j) b)) n (fun i _ => ⟨rfl, rfl⟩)), (X.2.2.2.1 q hq).2.trans (rhigh_c (A := A) (B := (astA A m (nI j) b)) n (fun i _ => ⟨rfl, rfl⟩))⟩, X.2.2.2.2.1, ⟨hz1, hz2, fun q => absurd (show M9 = 0 from q) (by omega), fun i hi => hlst i hi⟩, X.2.2.2.2.2.2.1, X.2.2.2.2.2.2.2.1, X.2.2.2.2.2.2.2.2.1, hst9, hz9, X.2.2.2.2.2.2.2.2.2.2.2.1, X.2.2.2.2.2.2.2.2.2.2.2.2.1, X.2.2.2.2.2.2.2.2.2.2.2.2.2⟩, rfl, rfl, rfl⟩
            · --f60
              refine g_throw (x := "java/lang/UnsupportedOperationException") (text := "there are 60 stones") (names := ["java/lang/RuntimeException", "java/lang/Exception"]) (ik := 101) (is := 181) (ic := 105) (key := 211) C (by rw [hK]; exact hl9) htab dX10_stone_63 rfl dX10_stone_66 rfl dX10_stone_67 rfl dX10_stone_69 rfl dX10_stone_72 (by decide +kernel) (by decide +kernel) w_723 w_59 (List.mem_of_getElem? (i := 22) rfl) (hat_UOE w_733) (hgood_of w_723 w_59 (hat_UOE w_733)) (roomT hR rfl) ?_
              have hpos : 0 < A 5 j := by
                rcases (X.2.2.2.2.2.2.2.2.2.2.2.2.1 j hj).1 with q | q
                · exact absurd q zc31
                · exact Int32.lt_of_le_of_ne q (fun y => zc38 y.symm)
              exact kx4 j hj rfl (fun q => q.elim zc7 (fun y => Int32.not_le.mpr y zc13)) hpos (by
                rcases Nat.lt_or_ge m 60 with q | q
                · exact absurd (nI_lt q (by decide)) zc60
                · omega)
          · --f38
            refine g_throw (x := "java/lang/IllegalStateException") (text := "the pit found nothing") (names := ["java/lang/RuntimeException", "java/lang/Exception"]) (ik := 173) (is := 175) (ic := 177) (key := 210) C (by rw [hK]; exact hl9) htab dX10_stone_41 rfl dX10_stone_44 rfl dX10_stone_45 rfl dX10_stone_47 rfl dX10_stone_50 (by decide +kernel) (by decide +kernel) w_930 w_64 (List.mem_of_getElem? (i := 21) rfl) (hat_ISE w_940) (hgood_of w_930 w_64 (hat_ISE w_940)) (roomT hR rfl) ?_
            first | exact kx3 j hj rfl (fun q => q.elim zc7 (fun y => Int32.not_le.mpr y zc13)) (by rw [zc31]; decide) | exact kx3 j hj rfl (fun q => q.elim zc7 (fun y => Int32.not_le.mpr y zc13)) (by rw [zc38]; decide)
      · --f13
        refine g_throw (x := "java/lang/IllegalArgumentException") (text := "a basket is 0 to 99") (names := ["java/lang/RuntimeException", "java/lang/Exception"]) (ik := 57) (is := 171) (ic := 61) (key := 209) C (by rw [hK]; exact hl9) htab dX10_stone_16 rfl dX10_stone_19 rfl dX10_stone_20 rfl dX10_stone_22 rfl dX10_stone_25 (by decide +kernel) (by decide +kernel) w_422 w_50 (List.mem_of_getElem? (i := 20) rfl) (hat_IAE w_466) (hgood_of w_422 w_50 (hat_IAE w_466)) (roomT hR rfl) ?_
        first | exact kx2 j hj rfl (Or.inl zc7) | exact kx2 j hj rfl (Or.inr (Int32.not_le.mp zc13))
  · --k2.1
    exact g_out C htab (by decide) (by decide) (kx1 zx2)
