theorem dX10_lay_0 : decode cX10_lay 0 = .ok (.iload_n 1, 1) := by decide +kernel
theorem dX10_lay_1 : decode cX10_lay 1 = .ok (.ifCond .lt 23, 3) := by decide +kernel
theorem dX10_lay_4 : decode cX10_lay 4 = .ok (.iload_n 1, 1) := by decide +kernel
theorem dX10_lay_5 : decode cX10_lay 5 = .ok (.ldc 187, 2) := by decide +kernel
theorem dX10_lay_7 : decode cX10_lay 7 = .ok (.if_icmp .gt 17, 3) := by decide +kernel
theorem dX10_lay_10 : decode cX10_lay 10 = .ok (.aload_n 0, 1) := by decide +kernel
theorem dX10_lay_11 : decode cX10_lay 11 = .ok (.getfield 26, 3) := by decide +kernel
theorem dX10_lay_14 : decode cX10_lay 14 = .ok (.invokevirtual 188, 3) := by decide +kernel
theorem dX10_lay_17 : decode cX10_lay 17 = .ok (.iload_n 1, 1) := by decide +kernel
theorem dX10_lay_18 : decode cX10_lay 18 = .ok (.iadd, 1) := by decide +kernel
theorem dX10_lay_19 : decode cX10_lay 19 = .ok (.ldc 191, 2) := by decide +kernel
theorem dX10_lay_21 : decode cX10_lay 21 = .ok (.if_icmp .le 13, 3) := by decide +kernel
theorem dX10_lay_24 : decode cX10_lay 24 = .ok (.new 57, 3) := by decide +kernel
theorem dX10_lay_27 : decode cX10_lay 27 = .ok (.dup, 1) := by decide +kernel
theorem dX10_lay_28 : decode cX10_lay 28 = .ok (.ldc 192, 2) := by decide +kernel
theorem dX10_lay_30 : decode cX10_lay 30 = .ok (.invokespecial 61, 3) := by decide +kernel
theorem dX10_lay_33 : decode cX10_lay 33 = .ok (.athrow, 1) := by decide +kernel
theorem dX10_lay_34 : decode cX10_lay 34 = .ok (.aload_n 0, 1) := by decide +kernel
theorem dX10_lay_35 : decode cX10_lay 35 = .ok (.getfield 26, 3) := by decide +kernel
theorem dX10_lay_38 : decode cX10_lay 38 = .ok (.iload_n 1, 1) := by decide +kernel
theorem dX10_lay_39 : decode cX10_lay 39 = .ok (.invokevirtual 194, 3) := by decide +kernel
theorem dX10_lay_42 : decode cX10_lay 42 = .ok (.aload_n 0, 1) := by decide +kernel
theorem dX10_lay_43 : decode cX10_lay 43 = .ok (.getfield 26, 3) := by decide +kernel
theorem dX10_lay_46 : decode cX10_lay 46 = .ok (.invokevirtual 188, 3) := by decide +kernel
theorem dX10_lay_49 : decode cX10_lay 49 = .ok (.ireturn, 1) := by decide +kernel
set_option maxHeartbeats 1000000 in
set_option maxRecDepth 20000 in
theorem cw_lay {l : Launch} {E : Ev} {P : Value → AH → Prop} {PX : String → AH → Prop}  {x o ou n m : Nat} {F : Nat → Int32} {A : Nat → Nat → Int32} {Fm : Nat → Int32} {Am : Nat → Nat → Int32} {h : AH} (I9 : WI E x o ou F A n m Fm Am h) {p : Int32} (hl9 : l.stackTraces = false) (kx : ((p < 0 ∨ 100000 < p) ∨ 10000000 < F 24 + p) → PX "java/lang/IllegalArgumentException" h) (k2 : ¬ ((p < 0 ∨ 100000 < p) ∨ 10000000 < F 24 + p) → ∀ h1, WI E x o ou (upd (upd F 0 0) 24 (F 24 + p)) A n m Fm Am h1 → P (.int (F 24 + p)) h1) : Mx l E yX10_lay cX10_lay 2 (some .int) 6 90 4 24 [.ref x, .int p] (h) P PX := by
  refine Mx.of (by decide) (Nat.le_of_ble_eq_true rfl) ?_
  intro K hK hR htab C
  obtain ⟨ad, R, z, N, f, O, W, X, rfl, rfl, rfl⟩ := I9
  have hx : h (ad 0 0) = some (.inr (10, [.ref (ad 1 0), .ref (ad 3 0), .ref (ad 10 0), .ref (ad 20 0), .int (F 19)])) := W.at 0 0 rfl
  have hmk : h (ad 10 0) = some (.inr (4, [.ref (ad 11 0), .ref (ad 13 0), .ref (ad 14 0), .int (F 24), .int (z 3)])) := W.at 10 0 rfl
  refine g_iload_n (n := 1) C dX10_lay_0 rfl rfl ?_
  refine g_if_lt (n := 4) (t := 24) C dX10_lay_1 rfl (by decide) (fun zc1 => ?_) (fun zc1 => ?_)
  · --t1
    refine g_throw (x := "java/lang/IllegalArgumentException") (text := "money laid out is 0 to 100000, costs 10000000 at most") (names := ["java/lang/RuntimeException", "java/lang/Exception"]) (ik := 57) (is := 192) (ic := 61) (key := 212) C (by rw [hK]; exact hl9) htab dX10_lay_24 rfl dX10_lay_27 rfl dX10_lay_28 rfl dX10_lay_30 rfl dX10_lay_33 (by decide +kernel) (by decide +kernel) w_422 w_50 (List.mem_of_getElem? (i := 23) rfl) (hat_IAE w_466) (hgood_of w_422 w_50 (hat_IAE w_466)) (roomT hR rfl) ?_
    first | exact kx (Or.inl (Or.inl zc1)) | exact kx (Or.inl (Or.inr (Int32.not_le.mp zc7))) | exact kx (Or.inr (Int32.not_le.mp zc21)) | exact kx (Or.inl (Or.inr zc7))
  · --f1
    refine g_iload_n (n := 5) C dX10_lay_4 rfl rfl ?_
    refine g_ldc (n := 7) C dX10_lay_5 rfl w_994 ?_
    refine g_icmp_gt (n := 10) (t := 24) C dX10_lay_7 rfl (by decide) (fun zc7 => ?_) (fun zc7 => ?_)
    · --t7
      refine g_throw (x := "java/lang/IllegalArgumentException") (text := "money laid out is 0 to 100000, costs 10000000 at most") (names := ["java/lang/RuntimeException", "java/lang/Exception"]) (ik := 57) (is := 192) (ic := 61) (key := 212) C (by rw [hK]; exact hl9) htab dX10_lay_24 rfl dX10_lay_27 rfl dX10_lay_28 rfl dX10_lay_30 rfl dX10_lay_33 (by decide +kernel) (by decide +kernel) w_422 w_50 (List.mem_of_getElem? (i := 23) rfl) (hat_IAE w_466) (hgood_of w_422 w_50 (hat_IAE w_466)) (roomT hR rfl) ?_
      first | exact kx (Or.inl (Or.inl zc1)) | exact kx (Or.inl (Or.inr (Int32.not_le.mp zc7))) | exact kx (Or.inr (Int32.not_le.mp zc21)) | exact kx (Or.inl (Or.inr zc7))
    · --f7
      refine g_aload_n (n := 11) C dX10_lay_10 rfl rfl ?_
      refine g_get (n := 14) (T := TX10) C 2 dX10_lay_11 rfl hx rfl rfl (by decide) inX10 w_236 rfl ?_
      refine g_callV (n := 17) (As := []) C dX10_lay_14 rfl mw_X4_costs w_389 (g_recv C hmk rfl) rfl rfl (room hR rfl) (cc_mcosts hmk ?_)
      refine g_iload_n (n := 18) C dX10_lay_17 rfl rfl ?_
      refine g_iadd (n := 19) C dX10_lay_18 rfl ?_
      refine g_ldc (n := 21) C dX10_lay_19 rfl w_995 ?_
      refine g_icmp_le (n := 24) (t := 34) C dX10_lay_21 rfl (by decide) (fun zc21 => ?_) (fun zc21 => ?_)
      · --t21
        refine g_aload_n (n := 35) C dX10_lay_34 rfl rfl ?_
        refine g_get (n := 38) (T := TX10) C 2 dX10_lay_35 rfl hx rfl rfl (by decide) inX10 w_236 rfl ?_
        refine g_iload_n (n := 39) C dX10_lay_38 rfl rfl ?_
        refine g_callV (n := 42) (As := [.int _]) C dX10_lay_39 rfl mw_X4_layOut w_997 (g_recv C hmk rfl) rfl rfl (room hR rfl) (cc_mlay hmk ?_)
        have hmk2 : hset h (ad 10 0) (.inr (4, [.ref (ad 11 0), .ref (ad 13 0), .ref (ad 14 0), .int (F 24 + p), .int (z 3)])) (ad 10 0) = some (.inr (4, [.ref (ad 11 0), .ref (ad 13 0), .ref (ad 14 0), .int (F 24 + p), .int (z 3)])) := hset_same _ _ _
        have hx2 := (hset_ne h ((.inr (4, [.ref (ad 11 0), .ref (ad 13 0), .ref (ad 14 0), .int (F 24 + p), .int (z 3)])) : va_E) (W.ne (c := 0) (i := 0) (d := 10) (j := 0) rfl rfl (fun q _ => absurd q (by decide)))).trans hx
        refine g_aload_n (n := 43) C dX10_lay_42 rfl rfl ?_
        refine g_get (n := 46) (T := TX10) C 2 dX10_lay_43 rfl hx2 rfl rfl (by decide) inX10 w_236 rfl ?_
        refine g_callV (n := 49) (As := []) C dX10_lay_46 rfl mw_X4_costs w_389 (g_recv C hmk2 rfl) rfl rfl (room hR rfl) (cc_mcosts hmk2 ?_)
        refine g_x ?_
        refine g_iret C dX10_lay_49 (by decide) (by decide) ?_
        have hb := X.2.2.2.2.2.2.2.2.2.2.2.2.2
        have h1 := Int32.le_iff_toInt_le.mp hb.2.2.1
        have h2 := Int32.le_iff_toInt_le.mp hb.2.2.2
        have h3 := Int32.le_iff_toInt_le.mp (Int32.not_lt.mp zc1)
        have h4 := Int32.le_iff_toInt_le.mp (Int32.not_lt.mp zc7)
        rw [show (0 : Int32).toInt = 0 from by decide] at h1 h3
        rw [show (10000000 : Int32).toInt = 10000000 from by decide] at h2
        rw [show (100000 : Int32).toInt = 100000 from by decide] at h4
        have hs : (F 24 + p).toInt = (F 24).toInt + p.toInt := by
          rw [Int32.toInt_add]
          exact Int.bmod_eq_of_le (by omega) (by omega)
        have h0s : 0 ≤ F 24 + p := Int32.le_iff_toInt_le.mpr (by rw [hs, show (0 : Int32).toInt = 0 from by decide]; omega)
        refine k2 (fun q => q.elim (fun q => q.elim zc1 (fun y => zc7 y)) (fun y => Int32.not_le.mpr y zc21)) _ ⟨ad, R, z, N, f, O, (W.one 10 (.inr (4, [.ref (ad 11 0), .ref (ad 13 0), .ref (ad 14 0), .int (F 24 + p), .int (z 3)])) rfl).cast rfl, ⟨X.1, X.2.1, X.2.2.1, X.2.2.2.1, X.2.2.2.2.1, X.2.2.2.2.2.1, X.2.2.2.2.2.2.1, X.2.2.2.2.2.2.2.1, X.2.2.2.2.2.2.2.2.1, X.2.2.2.2.2.2.2.2.2.1, X.2.2.2.2.2.2.2.2.2.2.1, X.2.2.2.2.2.2.2.2.2.2.2.1, X.2.2.2.2.2.2.2.2.2.2.2.2.1, ⟨hb.1, hb.2.1, h0s, zc21⟩⟩, rfl, rfl, rfl⟩
      · --f21
        refine g_throw (x := "java/lang/IllegalArgumentException") (text := "money laid out is 0 to 100000, costs 10000000 at most") (names := ["java/lang/RuntimeException", "java/lang/Exception"]) (ik := 57) (is := 192) (ic := 61) (key := 212) C (by rw [hK]; exact hl9) htab dX10_lay_24 rfl dX10_lay_27 rfl dX10_lay_28 rfl dX10_lay_30 rfl dX10_lay_33 (by decide +kernel) (by decide +kernel) w_422 w_50 (List.mem_of_getElem? (i := 23) rfl) (hat_IAE w_466) (hgood_of w_422 w_50 (hat_IAE w_466)) (roomT hR rfl) ?_
        first | exact kx (Or.inl (Or.inl zc1)) | exact kx (Or.inl (Or.inr (Int32.not_le.mp zc7))) | exact kx (Or.inr (Int32.not_le.mp zc21)) | exact kx (Or.inl (Or.inr zc7))
theorem dX10_hand_0 : decode cX10_hand 0 = .ok (.aload_n 0, 1) := by decide +kernel
theorem dX10_hand_1 : decode cX10_hand 1 = .ok (.iload_n 1, 1) := by decide +kernel
theorem dX10_hand_2 : decode cX10_hand 2 = .ok (.invokevirtual 197, 3) := by decide +kernel
theorem dX10_hand_5 : decode cX10_hand 5 = .ok (.astore 4, 2) := by decide +kernel
theorem dX10_hand_7 : decode cX10_hand 7 = .ok (.iload_n 2, 1) := by decide +kernel
theorem dX10_hand_8 : decode cX10_hand 8 = .ok (.ifCond .lt 9, 3) := by decide +kernel
theorem dX10_hand_11 : decode cX10_hand 11 = .ok (.iload_n 2, 1) := by decide +kernel
theorem dX10_hand_12 : decode cX10_hand 12 = .ok (.bipush 6, 2) := by decide +kernel
theorem dX10_hand_14 : decode cX10_hand 14 = .ok (.if_icmp .lt 13, 3) := by decide +kernel
theorem dX10_hand_17 : decode cX10_hand 17 = .ok (.new 201, 3) := by decide +kernel
theorem dX10_hand_20 : decode cX10_hand 20 = .ok (.dup, 1) := by decide +kernel
theorem dX10_hand_21 : decode cX10_hand 21 = .ok (.ldc 203, 2) := by decide +kernel
theorem dX10_hand_23 : decode cX10_hand 23 = .ok (.invokespecial 205, 3) := by decide +kernel
theorem dX10_hand_26 : decode cX10_hand 26 = .ok (.athrow, 1) := by decide +kernel
theorem dX10_hand_27 : decode cX10_hand 27 = .ok (.iload_n 3, 1) := by decide +kernel
theorem dX10_hand_28 : decode cX10_hand 28 = .ok (.invokestatic 206, 3) := by decide +kernel
theorem dX10_hand_31 : decode cX10_hand 31 = .ok (.aload 4, 2) := by decide +kernel
theorem dX10_hand_33 : decode cX10_hand 33 = .ok (.iload_n 2, 1) := by decide +kernel
theorem dX10_hand_34 : decode cX10_hand 34 = .ok (.iload_n 3, 1) := by decide +kernel
theorem dX10_hand_35 : decode cX10_hand 35 = .ok (.invokevirtual 209, 3) := by decide +kernel
theorem dX10_hand_38 : decode cX10_hand 38 = .ok (.ireturn, 1) := by decide +kernel
set_option maxHeartbeats 2000000 in
set_option maxRecDepth 20000 in
theorem cw_hand {l : Launch} {E : Ev} {P : Value → AH → Prop} {PX : String → AH → Prop}  {x o ou n m : Nat} {F : Nat → Int32} {A : Nat → Nat → Int32} {Fm : Nat → Int32} {Am : Nat → Nat → Int32} {h : AH} (I9 : WI E x o ou F A n m Fm Am h) {s b x9 : Int32} (hl9 : l.stackTraces = false) (kx1 : s < 0 ∨ F 23 - 1 < s → PX "java/lang/IndexOutOfBoundsException" h) (kx2 : ∀ j, j < m → s = nI j → (b < 0 ∨ 5 < b) → PX "java/lang/IndexOutOfBoundsException" h) (kx3 : ∀ j, j < m → s = nI j → ∀ i, i < 6 → b = nI i → (x9 < 0 ∨ 1000000 < x9) → PX "java/lang/IllegalArgumentException" h) (k4 : ∀ j, j < m → s = nI j → ∀ i, i < 6 → b = nI i → ¬ (x9 < 0 ∨ 1000000 < x9) → ¬ A 21 (10 * j + 2) < 0 → P (.int 0) h) (k5 : ∀ j, j < m → s = nI j → ∀ i, i < 6 → b = nI i → ¬ (x9 < 0 ∨ 1000000 < x9) → A 21 (10 * j + 2) < 0 → ∀ h1, WI E x o ou (upd F 0 0) (aset A 22 (6 * j + i) x9) n m Fm Am h1 → P (.int 1) h1) : Mx l E yX10_hand cX10_hand 5 (some .boolean) 7 111 4 24 [.ref x, .int s, .int b, .int x9] (h) P PX := by
  refine Mx.of (by decide) (Nat.le_of_ble_eq_true rfl) ?_
  intro K hK hR htab C
  obtain ⟨ad, R, z, N, f, O, W, X, rfl, rfl, rfl⟩ := I9
  have hx : h (ad 0 0) = some (.inr (10, [.ref (ad 1 0), .ref (ad 3 0), .ref (ad 10 0), .ref (ad 20 0), .int (F 19)])) := W.at 0 0 rfl
  obtain ⟨hd2, hmN, hN2, hst, hal2⟩ := w_list2 W X
  refine g_aload_n (n := 1) C dX10_hand_0 rfl rfl ?_
  refine g_iload_n (n := 2) C dX10_hand_1 rfl rfl ?_
  refine g_callVx (n := 5) (As := [.int _]) C dX10_hand_2 rfl mw_X10_stoneOf w_1008 (g_recv C hx rfl) rfl rfl (room hR rfl) (cw_stoneOf W X (by rw [hK]; exact hl9) (fun j hj ej => ?_) (fun zx2 => ?_))
  · --k2.0
    subst ej
    have hsb := (hst j hj).2.1
    have hhs := (hst j hj).2.2.1
    have hsh := (hst j hj).2.2.2
    refine g_astore (n := 7) C dX10_hand_5 rfl (by decide) ?_
    refine g_iload_n (n := 8) C dX10_hand_7 rfl rfl ?_
    refine g_if_lt (n := 11) (t := 17) C dX10_hand_8 rfl (by decide) (fun zc8 => ?_) (fun zc8 => ?_)
    · --t8
      refine g_throw (x := "java/lang/IndexOutOfBoundsException") (text := "a buyer is 0 to 5") (names := ["java/lang/RuntimeException", "java/lang/Exception"]) (ik := 201) (is := 203) (ic := 205) (key := 214) C (by rw [hK]; exact hl9) htab dX10_hand_17 rfl dX10_hand_20 rfl dX10_hand_21 rfl dX10_hand_23 rfl dX10_hand_26 (by decide +kernel) (by decide +kernel) w_707 w_58 (List.mem_of_getElem? (i := 25) rfl) (hat_IOOB w_717) (hgood_of w_707 w_58 (hat_IOOB w_717)) (roomT hR rfl) ?_
      first | exact kx2 j hj rfl (Or.inl zc8) | exact kx2 j hj rfl (Or.inr ((i_succ (M := 5) (N := 6) (by decide)).mpr zc14))
    · --f8
      refine g_iload_n (n := 12) C dX10_hand_11 rfl rfl ?_
      refine g_bipush (n := 14) (v := 6) C dX10_hand_12 rfl (by decide) ?_
      refine g_icmp_lt (n := 17) (t := 27) C dX10_hand_14 rfl (by decide) (fun zc14 => ?_) (fun zc14 => ?_)
      · --t14
        obtain ⟨i, hi, ei⟩ := rng_of (x := b) (M := 5) 5 (by decide) zc8 (fun q => (i_succ (M := 5) (N := 6) (by decide)).mp q zc14)
        subst ei
        refine g_iload_n (n := 28) C dX10_hand_27 rfl rfl ?_
        refine g_callSx (n := 31) (As := [.int _]) C dX10_hand_28 rfl mw_X10_checkMoney w_1019 rfl rfl (room hR rfl) (cw_money (by rw [hK]; exact hl9) (fun zm1 => ?_) (fun zm2 => ?_))
        · --k28.0
          refine g_aload (n := 33) C dX10_hand_31 rfl rfl ?_
          refine g_iload_n (n := 34) C dX10_hand_33 rfl rfl ?_
          refine g_iload_n (n := 35) C dX10_hand_34 rfl rfl ?_
          refine g_callV (n := 38) (As := [.int _, .int _]) C dX10_hand_35 rfl mw_X8_takeHand w_1024 (g_recv C hsb rfl) rfl rfl (room hR rfl) (cc_takeHand hsb hhs hi (fun za35 => ?_) (fun zb35 => ?_))
          · --k35.0
            refine g_x ?_
            refine g_zret C dX10_hand_38 (by decide) (by decide) (by rfl) ?_
            exact k4 j hj rfl i hi rfl zm1 (fun q => za35 ((m1_or (X.2.2.2.2.2.2.2.2.2.1 j hj).2.2.1).mp q))
          · --k35.1
            refine g_x ?_
            refine g_zret C dX10_hand_38 (by decide) (by decide) (by rfl) ?_
            have h2 : A 21 (10 * j + 2) < 0 := (m1_or (X.2.2.2.2.2.2.2.2.2.1 j hj).2.2.1).mpr zb35
            have hst9 : ∀ a, a < m → (∀ b, b < 6 → (rset R 17 j (upd (R 17 j) i x9)) 17 a b = (aset A 22 (6 * j + i) x9) 22 (6 * a + b) ∧ ((aset A 22 (6 * j + i) x9) 22 (6 * a + b) = -1 ∨ (0 ≤ (aset A 22 (6 * j + i) x9) 22 (6 * a + b) ∧ (aset A 22 (6 * j + i) x9) 22 (6 * a + b) ≤ 1000000))) ∧ (∀ k, k < 6 → (rset R 17 j (upd (R 17 j) i x9)) 18 a k = A 21 (10 * a + 4 + k)) ∧ (A 21 (10 * a + 2) = -1 ∨ 0 ≤ A 21 (10 * a + 2)) ∧ (A 21 (10 * a + 2) < 0 → ∀ k, k < 6 → A 21 (10 * a + 4 + k) = 0) := fun a ha => by
              obtain ⟨h1, h3⟩ := X.2.2.2.2.2.2.2.2.2.1 a ha
              refine ⟨fun b hb => ?_, h3⟩
              by_cases c1 : a = j
              · subst c1
                by_cases c2 : b = i
                · subst c2
                  rw [aset_same]
                  refine ⟨?_, Or.inr ⟨Int32.not_lt.mp (fun q => zm1 (Or.inl q)), Int32.not_lt.mp (fun q => zm1 (Or.inr q))⟩⟩
                  simp [rset, upd]
                · rw [aset_ne _ _ (fun q => by omega)]
                  simpa [rset, upd, c2] using h1 b hb
              · rw [aset_ne _ _ (fun q => by omega)]
                simpa [rset, c1] using h1 b hb
            refine k5 j hj rfl i hi rfl zm1 h2 _ ⟨ad, (rset R 17 j (upd (R 17 j) i x9)), z, N, f, O, (W.many 17 (g := rwE E R 17) (rwE E (rset R 17 j (upd (R 17 j) i x9)) 17) (.inl (E.2.2 1, 6, .inl (upd (R 17 j) i x9))) rfl hj (fun a ha hne => by simp [rset, hne]) (by simp [rset])).cast rfl, ⟨X.1, X.2.1, X.2.2.1, fun q hq => ⟨(X.2.2.2.1 q hq).1.trans (rlow_c (A := A) (B := (aset A 22 (6 * j + i) x9)) n (fun i _ => ⟨rfl, rfl⟩)), (X.2.2.2.1 q hq).2.trans (rhigh_c (A := A) (B := (aset A 22 (6 * j + i) x9)) n (fun i _ => ⟨rfl, rfl⟩))⟩, X.2.2.2.2.1, X.2.2.2.2.2.1, X.2.2.2.2.2.2.1, X.2.2.2.2.2.2.2.1, X.2.2.2.2.2.2.2.2.1, hst9, X.2.2.2.2.2.2.2.2.2.2.1, X.2.2.2.2.2.2.2.2.2.2.2.1, X.2.2.2.2.2.2.2.2.2.2.2.2.1, X.2.2.2.2.2.2.2.2.2.2.2.2.2⟩, rfl, rfl, rfl⟩
        · --k28.1
          exact g_out C htab (by decide) (by decide) (kx3 j hj rfl i hi rfl zm2)
      · --f14
        refine g_throw (x := "java/lang/IndexOutOfBoundsException") (text := "a buyer is 0 to 5") (names := ["java/lang/RuntimeException", "java/lang/Exception"]) (ik := 201) (is := 203) (ic := 205) (key := 214) C (by rw [hK]; exact hl9) htab dX10_hand_17 rfl dX10_hand_20 rfl dX10_hand_21 rfl dX10_hand_23 rfl dX10_hand_26 (by decide +kernel) (by decide +kernel) w_707 w_58 (List.mem_of_getElem? (i := 25) rfl) (hat_IOOB w_717) (hgood_of w_707 w_58 (hat_IOOB w_717)) (roomT hR rfl) ?_
        first | exact kx2 j hj rfl (Or.inl zc8) | exact kx2 j hj rfl (Or.inr ((i_succ (M := 5) (N := 6) (by decide)).mpr zc14))
  · --k2.1
    exact g_out C htab (by decide) (by decide) (kx1 zx2)
theorem g_tout4 {x : Int32} (h0 : ¬ x = 0) (h1 : ¬ x = 1) (h2 : ¬ x = 2) (h3 : ¬ x = 3) : x.toInt < 0 ∨ 3 < x.toInt := by
  have q0 := g_neI h0 (z := 0) (by decide)
  have q1 := g_neI h1 (z := 1) (by decide)
  have q2 := g_neI h2 (z := 2) (by decide)
  have q3 := g_neI h3 (z := 3) (by decide)
  omega
theorem w_four {w : Int32} (h0 : ¬ w = 0) (h1 : ¬ w = 1) (h2 : ¬ w = 2) (h3 : ¬ w = 3) (h4 : w < 4) : w < 0 := by
  have q0 := g_neI h0 (z := 0) (by decide)
  have q1 := g_neI h1 (z := 1) (by decide)
  have q2 := g_neI h2 (z := 2) (by decide)
  have q3 := g_neI h3 (z := 3) (by decide)
  have q4 := Int32.lt_iff_toInt_lt.mp h4
  rw [show (4 : Int32).toInt = 4 from by decide] at q4
  refine Int32.lt_iff_toInt_lt.mpr ?_
  rw [show (0 : Int32).toInt = 0 from by decide]
  omega
theorem dX10_part_0 : decode cX10_part 0 = .ok (.aload_n 0, 1) := by decide +kernel
theorem dX10_part_1 : decode cX10_part 1 = .ok (.iload_n 1, 1) := by decide +kernel
theorem dX10_part_2 : decode cX10_part 2 = .ok (.invokevirtual 197, 3) := by decide +kernel
theorem dX10_part_5 : decode cX10_part 5 = .ok (.astore_n 3, 1) := by decide +kernel
theorem dX10_part_6 : decode cX10_part 6 = .ok (.iload_n 2, 1) := by decide +kernel
theorem dX10_part_7 : decode cX10_part 7 = .ok (.tableswitch 49 0 3 #[29, 34, 39, 44], 29) := by decide +kernel
theorem dX10_part_36 : decode cX10_part 36 = .ok (.aload_n 3, 1) := by decide +kernel
theorem dX10_part_37 : decode cX10_part 37 = .ok (.getfield 225, 3) := by decide +kernel
theorem dX10_part_40 : decode cX10_part 40 = .ok (.ireturn, 1) := by decide +kernel
theorem dX10_part_41 : decode cX10_part 41 = .ok (.aload_n 3, 1) := by decide +kernel
theorem dX10_part_42 : decode cX10_part 42 = .ok (.getfield 228, 3) := by decide +kernel
theorem dX10_part_45 : decode cX10_part 45 = .ok (.ireturn, 1) := by decide +kernel
theorem dX10_part_46 : decode cX10_part 46 = .ok (.aload_n 3, 1) := by decide +kernel
theorem dX10_part_47 : decode cX10_part 47 = .ok (.getfield 231, 3) := by decide +kernel
theorem dX10_part_50 : decode cX10_part 50 = .ok (.ireturn, 1) := by decide +kernel
theorem dX10_part_51 : decode cX10_part 51 = .ok (.aload_n 3, 1) := by decide +kernel
theorem dX10_part_52 : decode cX10_part 52 = .ok (.getfield 234, 3) := by decide +kernel
theorem dX10_part_55 : decode cX10_part 55 = .ok (.ireturn, 1) := by decide +kernel
theorem dX10_part_56 : decode cX10_part 56 = .ok (.iload_n 2, 1) := by decide +kernel
theorem dX10_part_57 : decode cX10_part 57 = .ok (.iconst 4, 1) := by decide +kernel
theorem dX10_part_58 : decode cX10_part 58 = .ok (.if_icmp .lt 9, 3) := by decide +kernel
theorem dX10_part_61 : decode cX10_part 61 = .ok (.iload_n 2, 1) := by decide +kernel
theorem dX10_part_62 : decode cX10_part 62 = .ok (.bipush 10, 2) := by decide +kernel
theorem dX10_part_64 : decode cX10_part 64 = .ok (.if_icmp .lt 13, 3) := by decide +kernel
theorem dX10_part_67 : decode cX10_part 67 = .ok (.new 166, 3) := by decide +kernel
theorem dX10_part_70 : decode cX10_part 70 = .ok (.dup, 1) := by decide +kernel
theorem dX10_part_71 : decode cX10_part 71 = .ok (.ldc 237, 2) := by decide +kernel
theorem dX10_part_73 : decode cX10_part 73 = .ok (.invokespecial 170, 3) := by decide +kernel
theorem dX10_part_76 : decode cX10_part 76 = .ok (.athrow, 1) := by decide +kernel
theorem dX10_part_77 : decode cX10_part 77 = .ok (.aload_n 3, 1) := by decide +kernel
theorem dX10_part_78 : decode cX10_part 78 = .ok (.getfield 239, 3) := by decide +kernel
theorem dX10_part_81 : decode cX10_part 81 = .ok (.iload_n 2, 1) := by decide +kernel
theorem dX10_part_82 : decode cX10_part 82 = .ok (.iconst 4, 1) := by decide +kernel
theorem dX10_part_83 : decode cX10_part 83 = .ok (.isub, 1) := by decide +kernel
theorem dX10_part_84 : decode cX10_part 84 = .ok (.iaload, 1) := by decide +kernel
theorem dX10_part_85 : decode cX10_part 85 = .ok (.ireturn, 1) := by decide +kernel
set_option maxHeartbeats 1000000 in
set_option maxRecDepth 20000 in
theorem cw_part {l : Launch} {E : Ev} {P : Value → AH → Prop} {PX : String → AH → Prop}  {x o ou n m : Nat} {F : Nat → Int32} {A : Nat → Nat → Int32} {Fm : Nat → Int32} {Am : Nat → Nat → Int32} {h : AH} (I9 : WI E x o ou F A n m Fm Am h) {s w : Int32} (hl9 : l.stackTraces = false) (kx1 : s < 0 ∨ F 23 - 1 < s → PX "java/lang/IndexOutOfBoundsException" h) (kx2 : ∀ j, j < m → s = nI j → (w < 0 ∨ 9 < w) → PX "java/util/NoSuchElementException" h) (k3 : ∀ j, j < m → s = nI j → ∀ i, i < 10 → w = nI i → P (.int (A 21 (10 * j + i))) h) : Mx l E yX10_part cX10_part 4 (some .int) 7 111 4 24 [.ref x, .int s, .int w] (h) P PX := by
  refine Mx.of (by decide) (Nat.le_of_ble_eq_true rfl) ?_
  intro K hK hR htab C
  obtain ⟨ad, R, z, N, f, O, W, X, rfl, rfl, rfl⟩ := I9
  have hx : h (ad 0 0) = some (.inr (10, [.ref (ad 1 0), .ref (ad 3 0), .ref (ad 10 0), .ref (ad 20 0), .int (F 19)])) := W.at 0 0 rfl
  obtain ⟨hd2, hmN, hN2, hst, hal2⟩ := w_list2 W X
  refine g_aload_n (n := 1) C dX10_part_0 rfl rfl ?_
  refine g_iload_n (n := 2) C dX10_part_1 rfl rfl ?_
  refine g_callVx (n := 5) (As := [.int _]) C dX10_part_2 rfl mw_X10_stoneOf w_1008 (g_recv C hx rfl) rfl rfl (room hR rfl) (cw_stoneOf W X (by rw [hK]; exact hl9) (fun j hj ej => ?_) (fun zx2 => ?_))
  · --k2.0
    subst ej
    have hsb := (hst j hj).2.1
    have hhs := (hst j hj).2.2.1
    have hsh := (hst j hj).2.2.2
    refine g_astore_n (n := 6) C dX10_part_5 rfl (by decide) ?_
    refine g_iload_n (n := 7) C dX10_part_6 rfl rfl ?_
    refine g_case (v := 0) (fun zc7_0 => ?_) (fun zc7_0 => ?_)
    · --case 0
      refine g_tableIn (t := 36) C dX10_part_7 (by decide) (by decide) (by rfl) (by decide) ?_
      refine g_aload_n (n := 37) C dX10_part_36 rfl rfl ?_
      refine g_get (n := 40) (T := TX8) C 0 dX10_part_37 rfl hsb rfl rfl (by decide) inX8 w_959 rfl ?_
      refine g_x ?_
      refine g_iret C dX10_part_40 (by decide) (by decide) ?_
      exact k3 j hj rfl 0 (by decide) zc7_0
    refine g_case (v := 1) (fun zc7_1 => ?_) (fun zc7_1 => ?_)
    · --case 1
      refine g_tableIn (t := 41) C dX10_part_7 (by decide) (by decide) (by rfl) (by decide) ?_
      refine g_aload_n (n := 42) C dX10_part_41 rfl rfl ?_
      refine g_get (n := 45) (T := TX8) C 1 dX10_part_42 rfl hsb rfl rfl (by decide) inX8 w_961 rfl ?_
      refine g_x ?_
      refine g_iret C dX10_part_45 (by decide) (by decide) ?_
      exact k3 j hj rfl 1 (by decide) zc7_1
    refine g_case (v := 2) (fun zc7_2 => ?_) (fun zc7_2 => ?_)
    · --case 2
      refine g_tableIn (t := 46) C dX10_part_7 (by decide) (by decide) (by rfl) (by decide) ?_
      refine g_aload_n (n := 47) C dX10_part_46 rfl rfl ?_
      refine g_get (n := 50) (T := TX8) C 4 dX10_part_47 rfl hsb rfl rfl (by decide) inX8 w_969 rfl ?_
      refine g_x ?_
      refine g_iret C dX10_part_50 (by decide) (by decide) ?_
      exact k3 j hj rfl 2 (by decide) zc7_2
    refine g_case (v := 3) (fun zc7_3 => ?_) (fun zc7_3 => ?_)
    · --case 3
      refine g_tableIn (t := 51) C dX10_part_7 (by decide) (by decide) (by rfl) (by decide) ?_
      refine g_aload_n (n := 52) C dX10_part_51 rfl rfl ?_
      refine g_get (n := 55) (T := TX8) C 5 dX10_part_52 rfl hsb rfl rfl (by decide) inX8 w_972 rfl ?_
      refine g_x ?_
      refine g_iret C dX10_part_55 (by decide) (by decide) ?_
      exact k3 j hj rfl 3 (by decide) zc7_3
    refine g_tableOut (t := 56) C dX10_part_7 (by first | exact g_tout4 zc7_0 zc7_1 zc7_2 zc7_3) (by decide) ?_
    refine g_iload_n (n := 57) C dX10_part_56 rfl rfl ?_
    refine g_iconst (n := 58) (v := 4) C dX10_part_57 rfl (by decide) ?_
    refine g_icmp_lt (n := 61) (t := 67) C dX10_part_58 rfl (by decide) (fun zc58 => ?_) (fun zc58 => ?_)
    · --t58
      refine g_throwN (x := "java/util/NoSuchElementException") (text := "a stone tells 0 to 9") (sup9 := "java/lang/RuntimeException") (r9 := ["java/lang/Exception"]) (bs9 := prog_39_method_4_code) (ik := 166) (is := 237) (ic := 170) (key := 216) (k9 := 13) C (by rw [hK]; exact hl9) htab dX10_part_67 rfl dX10_part_70 rfl dX10_part_71 rfl dX10_part_73 rfl dX10_part_76 (by decide +kernel) (by decide +kernel) (by decide +kernel) (by decide +kernel) (by decide +kernel) (by decide +kernel) (by decide +kernel) w_905 w_63 (List.mem_of_getElem? (i := 27) rfl) (hat_NSE w_915) (hgood_of w_905 w_63 (hat_NSE w_915)) (roomT hR rfl) ?_
      first | exact kx2 j hj rfl (Or.inl (w_four zc7_0 zc7_1 zc7_2 zc7_3 zc58)) | exact kx2 j hj rfl (Or.inr ((i_succ (M := 9) (N := 10) (by decide)).mpr zc64))
    · --f58
      refine g_iload_n (n := 62) C dX10_part_61 rfl rfl ?_
      refine g_bipush (n := 64) (v := 10) C dX10_part_62 rfl (by decide) ?_
      refine g_icmp_lt (n := 67) (t := 77) C dX10_part_64 rfl (by decide) (fun zc64 => ?_) (fun zc64 => ?_)
      · --t64
        obtain ⟨i, hi, ei⟩ := rng_of (x := w) (M := 9) 9 (by decide) (fun q => zc58 (Int32.lt_trans q (by decide))) (fun q => (i_succ (M := 9) (N := 10) (by decide)).mp q zc64)
        subst ei
        have hi4 : 4 ≤ i := by
          rcases Nat.lt_or_ge i 4 with q | q
          · exact absurd (nI_lt q (by decide)) zc58
          · exact q
        refine g_aload_n (n := 78) C dX10_part_77 rfl rfl ?_
        refine g_get (n := 81) (T := TX8) C 3 dX10_part_78 rfl hsb rfl rfl (by decide) inX8 w_966 rfl ?_
        refine g_iload_n (n := 82) C dX10_part_81 rfl rfl ?_
        refine g_iconst (n := 83) (v := 4) C dX10_part_82 rfl (by decide) ?_
        refine g_isub (n := 84) C dX10_part_83 rfl ?_
        rw [show nI i - 4 = nI (i - 4) from pk_sub (b := 4) hi4]
        refine f_iald (n := 85) (v := (A 21 (10 * j + i))) (i - 4) C dX10_part_84 rfl hsh rfl (by omega) (by decide) (((X.2.2.2.2.2.2.2.2.2.1 j hj).2.1 (i - 4) (by omega)).trans (by rw [show 10 * j + 4 + (i - 4) = 10 * j + i from by omega])) ?_
        refine g_x ?_
        refine g_iret C dX10_part_85 (by decide) (by decide) ?_
        exact k3 j hj rfl i hi rfl
      · --f64
        refine g_throwN (x := "java/util/NoSuchElementException") (text := "a stone tells 0 to 9") (sup9 := "java/lang/RuntimeException") (r9 := ["java/lang/Exception"]) (bs9 := prog_39_method_4_code) (ik := 166) (is := 237) (ic := 170) (key := 216) (k9 := 13) C (by rw [hK]; exact hl9) htab dX10_part_67 rfl dX10_part_70 rfl dX10_part_71 rfl dX10_part_73 rfl dX10_part_76 (by decide +kernel) (by decide +kernel) (by decide +kernel) (by decide +kernel) (by decide +kernel) (by decide +kernel) (by decide +kernel) w_905 w_63 (List.mem_of_getElem? (i := 27) rfl) (hat_NSE w_915) (hgood_of w_905 w_63 (hat_NSE w_915)) (roomT hR rfl) ?_
        first | exact kx2 j hj rfl (Or.inl (w_four zc7_0 zc7_1 zc7_2 zc7_3 zc58)) | exact kx2 j hj rfl (Or.inr ((i_succ (M := 9) (N := 10) (by decide)).mpr zc64))
  · --k2.1
    exact g_out C htab (by decide) (by decide) (kx1 zx2)
