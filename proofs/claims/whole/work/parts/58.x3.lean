theorem dX10_wash_0 : decode cX10_wash 0 = .ok (.aload_n 0, 1) := by decide +kernel
theorem dX10_wash_1 : decode cX10_wash 1 = .ok (.iload_n 1, 1) := by decide +kernel
theorem dX10_wash_2 : decode cX10_wash 2 = .ok (.invokevirtual 113, 3) := by decide +kernel
theorem dX10_wash_5 : decode cX10_wash 5 = .ok (.astore_n 3, 1) := by decide +kernel
theorem dX10_wash_6 : decode cX10_wash 6 = .ok (.iload_n 2, 1) := by decide +kernel
theorem dX10_wash_7 : decode cX10_wash 7 = .ok (.ifCond .lt 9, 3) := by decide +kernel
theorem dX10_wash_10 : decode cX10_wash 10 = .ok (.iload_n 2, 1) := by decide +kernel
theorem dX10_wash_11 : decode cX10_wash 11 = .ok (.bipush 100, 2) := by decide +kernel
theorem dX10_wash_13 : decode cX10_wash 13 = .ok (.if_icmp .le 13, 3) := by decide +kernel
theorem dX10_wash_16 : decode cX10_wash 16 = .ok (.new 57, 3) := by decide +kernel
theorem dX10_wash_19 : decode cX10_wash 19 = .ok (.dup, 1) := by decide +kernel
theorem dX10_wash_20 : decode cX10_wash 20 = .ok (.ldc 117, 2) := by decide +kernel
theorem dX10_wash_22 : decode cX10_wash 22 = .ok (.invokespecial 61, 3) := by decide +kernel
theorem dX10_wash_25 : decode cX10_wash 25 = .ok (.athrow, 1) := by decide +kernel
theorem dX10_wash_26 : decode cX10_wash 26 = .ok (.aload_n 0, 1) := by decide +kernel
theorem dX10_wash_27 : decode cX10_wash 27 = .ok (.getfield 19, 3) := by decide +kernel
theorem dX10_wash_30 : decode cX10_wash 30 = .ok (.aload_n 3, 1) := by decide +kernel
theorem dX10_wash_31 : decode cX10_wash 31 = .ok (.iload_n 2, 1) := by decide +kernel
theorem dX10_wash_32 : decode cX10_wash 32 = .ok (.invokevirtual 119, 3) := by decide +kernel
theorem dX10_wash_35 : decode cX10_wash 35 = .ok (.ireturn, 1) := by decide +kernel
set_option maxHeartbeats 2000000 in
set_option maxRecDepth 20000 in
theorem cw_wash {l : Launch} {E : Ev} {P : Value → AH → Prop} {PX : String → AH → Prop}  {x o ou n m : Nat} {F : Nat → Int32} {A : Nat → Nat → Int32} {Fm : Nat → Int32} {Am : Nat → Nat → Int32} {h : AH} (I9 : WI E x o ou F A n m Fm Am h) {p g : Int32} (hl9 : l.stackTraces = false) (kx1 : p < 0 ∨ F 9 - 1 < p → PX "java/lang/IndexOutOfBoundsException" h) (kx2 : ∀ j, j < n → p = nI j → (g < 0 ∨ 100 < g) → PX "java/lang/IllegalArgumentException" h) (k3 : ∀ j, j < n → p = nI j → ¬ (g < 0 ∨ 100 < g) → ¬ A 5 j < 0 → P (.int 0) h) (k4 : ∀ j, j < n → p = nI j → ¬ (g < 0 ∨ 100 < g) → A 5 j < 0 → ∀ h1, WI E x o ou (upd F 0 0) (aset A 5 j g) n m Fm Am h1 → P (.int 1) h1) : Mx l E yX10_wash cX10_wash 4 (some .boolean) 7 111 4 24 [.ref x, .int p, .int g] (h) P PX := by
  refine Mx.of (by decide) (Nat.le_of_ble_eq_true rfl) ?_
  intro K hK hR htab C
  obtain ⟨ad, R, z, N, f, O, W, X, rfl, rfl, rfl⟩ := I9
  have hx : h (ad 0 0) = some (.inr (10, [.ref (ad 1 0), .ref (ad 3 0), .ref (ad 10 0), .ref (ad 20 0), .int (F 19)])) := W.at 0 0 rfl
  have hk : h (ad 3 0) = some (.inr (2, [.ref (ad 4 0), .ref (ad 6 0), .ref (ad 7 0), .ref (ad 8 0), .int (F 2), .int (F 1)])) := W.at 3 0 rfl
  have hl : h (ad 6 0) = some (.inl (E.2.2 1, 96, .inl (R 6 0))) := W.at 6 0 rfl
  have hg : h (ad 7 0) = some (.inl (E.2.2 1, 96, .inl (R 7 0))) := W.at 7 0 rfl
  obtain ⟨hd, hnN, hN, hpa, hal⟩ := w_list W X
  refine g_aload_n (n := 1) C dX10_wash_0 rfl rfl ?_
  refine g_iload_n (n := 2) C dX10_wash_1 rfl rfl ?_
  refine g_callVx (n := 5) (As := [.int _]) C dX10_wash_2 rfl mw_X10_pitOf w_843 (g_recv C hx rfl) rfl rfl (room hR rfl) (cw_pitOf W X (by rw [hK]; exact hl9) (fun j hj ej => ?_) (fun zx2 => ?_))
  · --k2.0
    subst ej
    have hpb := (hpa j hj).2
    refine g_astore_n (n := 6) C dX10_wash_5 rfl (by decide) ?_
    refine g_iload_n (n := 7) C dX10_wash_6 rfl rfl ?_
    refine g_if_lt (n := 10) (t := 16) C dX10_wash_7 rfl (by decide) (fun zc7 => ?_) (fun zc7 => ?_)
    · --t7
      refine g_throw (x := "java/lang/IllegalArgumentException") (text := "gravel is 0 to 100") (names := ["java/lang/RuntimeException", "java/lang/Exception"]) (ik := 57) (is := 117) (ic := 61) (key := 206) C (by rw [hK]; exact hl9) htab dX10_wash_16 rfl dX10_wash_19 rfl dX10_wash_20 rfl dX10_wash_22 rfl dX10_wash_25 (by decide +kernel) (by decide +kernel) w_422 w_50 (List.mem_of_getElem? (i := 17) rfl) (hat_IAE w_466) (hgood_of w_422 w_50 (hat_IAE w_466)) (roomT hR rfl) ?_
      first | exact kx2 j hj rfl (Or.inl zc7) | exact kx2 j hj rfl (Or.inr (Int32.not_le.mp zc13))
    · --f7
      refine g_iload_n (n := 11) C dX10_wash_10 rfl rfl ?_
      refine g_bipush (n := 13) (v := 100) C dX10_wash_11 rfl (by decide) ?_
      refine g_icmp_le (n := 16) (t := 26) C dX10_wash_13 rfl (by decide) (fun zc13 => ?_) (fun zc13 => ?_)
      · --t13
        refine g_aload_n (n := 27) C dX10_wash_26 rfl rfl ?_
        refine g_get (n := 30) (T := TX10) C 1 dX10_wash_27 rfl hx rfl rfl (by decide) inX10 w_235 rfl ?_
        refine g_aload_n (n := 31) C dX10_wash_30 rfl rfl ?_
        refine g_iload_n (n := 32) C dX10_wash_31 rfl rfl ?_
        refine g_callV (n := 35) (As := [.ref _, .int _]) C dX10_wash_32 rfl mw_X2_tellFound w_853 (g_recv C hk rfl) rfl rfl (room hR rfl) (cc_tell hk hl hg hpb (W.ne (c := 6) (i := 0) (d := 7) (j := 0) rfl rfl (fun q _ => absurd q (by decide))) (List.not_mem_cons_of_ne_of_not_mem (W.ne (c := 3) (i := 0) (d := 6) (j := 0) rfl rfl (fun q _ => absurd q (by decide))) (List.not_mem_cons_of_ne_of_not_mem (W.ne (c := 3) (i := 0) (d := 7) (j := 0) rfl rfl (fun q _ => absurd q (by decide))) List.not_mem_nil)) (List.not_mem_cons_of_ne_of_not_mem (W.ne (d := 6) (j := 0) (c := 9) (i := j) (show wV (wL E ad F A R z N f n m Fm Am O) 9 j = some (pitE A j) from many_at (g := pitE A) hj) rfl (fun q _ => absurd q (by decide))) (List.not_mem_cons_of_ne_of_not_mem (W.ne (d := 7) (j := 0) (c := 9) (i := j) (show wV (wL E ad F A R z N f n m Fm Am O) 9 j = some (pitE A j) from many_at (g := pitE A) hj) rfl (fun q _ => absurd q (by decide))) List.not_mem_nil)) (fun q => zc7 (by rw [q]; decide)) (fun za32 => ?_) (fun zb32 => ?_))
        · --k32.0
          refine g_x ?_
          refine g_zret C dX10_wash_35 (by decide) (by decide) (by rfl) ?_
          exact k3 j hj rfl (fun q => q.elim zc7 (fun y => Int32.not_le.mpr y zc13)) (fun q => za32 ((m1_or (X.2.2.2.2.2.2.2.2.2.2.2.2.1 j hj).1).mp q))
        · --k32.1
          refine g_x ?_
          refine g_zret C dX10_wash_35 (by decide) (by decide) (by rfl) ?_
          have h5 : A 5 j < 0 := (m1_or (X.2.2.2.2.2.2.2.2.2.2.2.2.1 j hj).1).mpr zb32
          rw [LW_cons, LW_cons, LW_nil]
          have hr3 : ∀ q, q < 96 → nlo (R 6 0) (F 2) (A 3 j) g 96 q = rlow (F 2) (aset A 5 j g) (nI q) n ∧ nhi (R 7 0) (F 2) (A 3 j) g 96 q = rhigh (F 2) (aset A 5 j g) (nI q) n := fun q hq => ⟨by rw [rlow_w h5 zc7, if_pos hj, ← (X.2.2.2.1 q hq).1]; exact if_pos hq, by rw [rhigh_w h5 zc7, if_pos hj, ← (X.2.2.2.1 q hq).2]; exact if_pos hq⟩
          have W1 := W.many 9 (e := .inr (5, [.int (A 3 j), .int (A 4 j), .int (A 7 j), .int (A 8 j), .int g, .int (A 6 j)])) (g := pitE A) (pitE (aset A 5 j g)) rfl hj (fun i hi hne => by unfold pitE; rw [aset_ne _ _ (fun q => hne q.2), aset_ne _ _ (fun q => hne q.2), aset_ne _ _ (fun q => hne q.2), aset_ne _ _ (fun q => hne q.2), aset_ne _ _ (fun q => hne q.2), aset_ne _ _ (fun q => hne q.2)]) (by simp [pitE, aset])
          refine k4 j hj rfl (fun q => q.elim zc7 (fun y => Int32.not_le.mpr y zc13)) h5 _ ⟨ad, (rset (rset R 7 0 (nhi (R 7 0) (F 2) (A 3 j) g 96)) 6 0 (nlo (R 6 0) (F 2) (A 3 j) g 96)), z, N, f, O, ((W1.one 7 (.inl (E.2.2 1, 96, .inl (nhi (R 7 0) (F 2) (A 3 j) g 96))) rfl).one 6 (.inl (E.2.2 1, 96, .inl (nlo (R 6 0) (F 2) (A 3 j) g 96))) rfl).cast rfl, ⟨X.1, X.2.1, X.2.2.1, hr3, X.2.2.2.2.1, X.2.2.2.2.2.1, X.2.2.2.2.2.2.1, X.2.2.2.2.2.2.2.1, X.2.2.2.2.2.2.2.2.1, X.2.2.2.2.2.2.2.2.2.1, X.2.2.2.2.2.2.2.2.2.2.1, X.2.2.2.2.2.2.2.2.2.2.2.1, fun i hi => by
              by_cases c : i = j
              · subst c
                rw [aset_same]
                exact ⟨Or.inr (Int32.not_lt.mp zc7), (X.2.2.2.2.2.2.2.2.2.2.2.2.1 i hi).2⟩
              · rw [aset_ne _ _ (fun q => c q.2), aset_row A j g (by decide)]
                exact X.2.2.2.2.2.2.2.2.2.2.2.2.1 i hi, X.2.2.2.2.2.2.2.2.2.2.2.2.2⟩, rfl, rfl, rfl⟩
      · --f13
        refine g_throw (x := "java/lang/IllegalArgumentException") (text := "gravel is 0 to 100") (names := ["java/lang/RuntimeException", "java/lang/Exception"]) (ik := 57) (is := 117) (ic := 61) (key := 206) C (by rw [hK]; exact hl9) htab dX10_wash_16 rfl dX10_wash_19 rfl dX10_wash_20 rfl dX10_wash_22 rfl dX10_wash_25 (by decide +kernel) (by decide +kernel) w_422 w_50 (List.mem_of_getElem? (i := 17) rfl) (hat_IAE w_466) (hgood_of w_422 w_50 (hat_IAE w_466)) (roomT hR rfl) ?_
        first | exact kx2 j hj rfl (Or.inl zc7) | exact kx2 j hj rfl (Or.inr (Int32.not_le.mp zc13))
  · --k2.1
    exact g_out C htab (by decide) (by decide) (kx1 zx2)
theorem dX10_fill_0 : decode cX10_fill 0 = .ok (.aload_n 0, 1) := by decide +kernel
theorem dX10_fill_1 : decode cX10_fill 1 = .ok (.iload_n 1, 1) := by decide +kernel
theorem dX10_fill_2 : decode cX10_fill 2 = .ok (.invokevirtual 113, 3) := by decide +kernel
theorem dX10_fill_5 : decode cX10_fill 5 = .ok (.aload_n 0, 1) := by decide +kernel
theorem dX10_fill_6 : decode cX10_fill 6 = .ok (.getfield 19, 3) := by decide +kernel
theorem dX10_fill_9 : decode cX10_fill 9 = .ok (.invokevirtual 123, 3) := by decide +kernel
theorem dX10_fill_12 : decode cX10_fill 12 = .ok (.invokevirtual 126, 3) := by decide +kernel
theorem dX10_fill_15 : decode cX10_fill 15 = .ok (.ireturn, 1) := by decide +kernel
set_option maxHeartbeats 1000000 in
set_option maxRecDepth 20000 in
theorem cw_fill {l : Launch} {E : Ev} {P : Value → AH → Prop} {PX : String → AH → Prop}  {x o ou n m : Nat} {F : Nat → Int32} {A : Nat → Nat → Int32} {Fm : Nat → Int32} {Am : Nat → Nat → Int32} {h : AH} (I9 : WI E x o ou F A n m Fm Am h) {p : Int32} (hl9 : l.stackTraces = false) (kx1 : p < 0 ∨ F 9 - 1 < p → PX "java/lang/IndexOutOfBoundsException" h) (k2 : ∀ j, j < n → p = nI j → ¬ A 6 j < 0 → P (.int 0) h) (k3 : ∀ j, j < n → p = nI j → A 6 j < 0 → ∀ h1, WI E x o ou (upd F 0 0) (aset A 6 j (F 1)) n m Fm Am h1 → P (.int 1) h1) : Mx l E yX10_fill cX10_fill 2 (some .boolean) 7 111 4 24 [.ref x, .int p] (h) P PX := by
  refine Mx.of (by decide) (Nat.le_of_ble_eq_true rfl) ?_
  intro K hK hR htab C
  obtain ⟨ad, R, z, N, f, O, W, X, rfl, rfl, rfl⟩ := I9
  have hx : h (ad 0 0) = some (.inr (10, [.ref (ad 1 0), .ref (ad 3 0), .ref (ad 10 0), .ref (ad 20 0), .int (F 19)])) := W.at 0 0 rfl
  have hk : h (ad 3 0) = some (.inr (2, [.ref (ad 4 0), .ref (ad 6 0), .ref (ad 7 0), .ref (ad 8 0), .int (F 2), .int (F 1)])) := W.at 3 0 rfl
  obtain ⟨hd, hnN, hN, hpa, hal⟩ := w_list W X
  refine g_aload_n (n := 1) C dX10_fill_0 rfl rfl ?_
  refine g_iload_n (n := 2) C dX10_fill_1 rfl rfl ?_
  refine g_callVx (n := 5) (As := [.int _]) C dX10_fill_2 rfl mw_X10_pitOf w_843 (g_recv C hx rfl) rfl rfl (room hR rfl) (cw_pitOf W X (by rw [hK]; exact hl9) (fun j hj ej => ?_) (fun zx2 => ?_))
  · --k2.0
    subst ej
    have hpb := (hpa j hj).2
    refine g_aload_n (n := 6) C dX10_fill_5 rfl rfl ?_
    refine g_get (n := 9) (T := TX10) C 1 dX10_fill_6 rfl hx rfl rfl (by decide) inX10 w_235 rfl ?_
    refine g_callV (n := 12) (As := []) C dX10_fill_9 rfl mw_X2_today w_368 (g_recv C hk rfl) rfl rfl (room hR rfl) (cc_gtoday hk ?_)
    refine g_callV (n := 15) (As := [.int _]) C dX10_fill_12 rfl mw_X5_fillOn w_864 (g_recv C hpb rfl) rfl rfl (room hR rfl) (cc_fillOn hpb (fun za12 => ?_) (fun zb12 => ?_))
    · --k12.0
      refine g_x ?_
      refine g_zret C dX10_fill_15 (by decide) (by decide) (by rfl) ?_
      exact k2 j hj rfl (fun q => za12 ((m1_or (X.2.2.2.2.2.2.2.2.2.2.2.2.1 j hj).2).mp q))
    · --k12.1
      refine g_x ?_
      refine g_zret C dX10_fill_15 (by decide) (by decide) (by rfl) ?_
      have h6 : A 6 j < 0 := (m1_or (X.2.2.2.2.2.2.2.2.2.2.2.2.1 j hj).2).mpr zb12
      have hr3 : ∀ q, q < 96 → R 6 0 q = rlow (F 2) (aset A 6 j (F 1)) (nI q) n ∧ R 7 0 q = rhigh (F 2) (aset A 6 j (F 1)) (nI q) n := fun q hq => ⟨(X.2.2.2.1 q hq).1.trans (rlow_c n (fun i _ => ⟨rfl, rfl⟩)), (X.2.2.2.1 q hq).2.trans (rhigh_c n (fun i _ => ⟨rfl, rfl⟩))⟩
      refine k3 j hj rfl h6 _ ⟨ad, R, z, N, f, O, (W.many 9 (e := .inr (5, [.int (A 3 j), .int (A 4 j), .int (A 7 j), .int (A 8 j), .int (A 5 j), .int (F 1)])) (g := pitE A) (pitE (aset A 6 j (F 1))) rfl hj (fun i hi hne => by unfold pitE; rw [aset_ne _ _ (fun q => hne q.2), aset_ne _ _ (fun q => hne q.2), aset_ne _ _ (fun q => hne q.2), aset_ne _ _ (fun q => hne q.2), aset_ne _ _ (fun q => hne q.2), aset_ne _ _ (fun q => hne q.2)]) (by simp [pitE, aset])).cast rfl, ⟨X.1, X.2.1, X.2.2.1, hr3, X.2.2.2.2.1, X.2.2.2.2.2.1, X.2.2.2.2.2.2.1, X.2.2.2.2.2.2.2.1, X.2.2.2.2.2.2.2.2.1, X.2.2.2.2.2.2.2.2.2.1, X.2.2.2.2.2.2.2.2.2.2.1, X.2.2.2.2.2.2.2.2.2.2.2.1, fun i hi => by
          by_cases c : i = j
          · subst c
            rw [aset_same]
            exact ⟨(X.2.2.2.2.2.2.2.2.2.2.2.2.1 i hi).1, Or.inr X.2.2.2.2.2.2.2.2.2.2.2.2.2.1⟩
          · rw [show aset A 6 j (F 1) 6 i = A 6 i from aset_ne _ _ (fun q => c q.2)]
            exact X.2.2.2.2.2.2.2.2.2.2.2.2.1 i hi, X.2.2.2.2.2.2.2.2.2.2.2.2.2⟩, rfl, rfl, rfl⟩
  · --k2.1
    exact g_out C htab (by decide) (by decide) (kx1 zx2)
theorem dX10_days_0 : decode cX10_days 0 = .ok (.iload_n 1, 1) := by decide +kernel
theorem dX10_days_1 : decode cX10_days 1 = .ok (.ifCond .lt 10, 3) := by decide +kernel
theorem dX10_days_4 : decode cX10_days 4 = .ok (.iload_n 1, 1) := by decide +kernel
theorem dX10_days_5 : decode cX10_days 5 = .ok (.sipush 1000, 3) := by decide +kernel
theorem dX10_days_8 : decode cX10_days 8 = .ok (.if_icmp .le 13, 3) := by decide +kernel
theorem dX10_days_11 : decode cX10_days 11 = .ok (.new 57, 3) := by decide +kernel
theorem dX10_days_14 : decode cX10_days 14 = .ok (.dup, 1) := by decide +kernel
theorem dX10_days_15 : decode cX10_days 15 = .ok (.ldc 131, 2) := by decide +kernel
theorem dX10_days_17 : decode cX10_days 17 = .ok (.invokespecial 61, 3) := by decide +kernel
theorem dX10_days_20 : decode cX10_days 20 = .ok (.athrow, 1) := by decide +kernel
theorem dX10_days_21 : decode cX10_days 21 = .ok (.aload_n 0, 1) := by decide +kernel
theorem dX10_days_22 : decode cX10_days 22 = .ok (.getfield 19, 3) := by decide +kernel
theorem dX10_days_25 : decode cX10_days 25 = .ok (.iload_n 1, 1) := by decide +kernel
theorem dX10_days_26 : decode cX10_days 26 = .ok (.invokevirtual 133, 3) := by decide +kernel
theorem dX10_days_29 : decode cX10_days 29 = .ok (.aload_n 0, 1) := by decide +kernel
theorem dX10_days_30 : decode cX10_days 30 = .ok (.getfield 19, 3) := by decide +kernel
theorem dX10_days_33 : decode cX10_days 33 = .ok (.invokevirtual 123, 3) := by decide +kernel
theorem dX10_days_36 : decode cX10_days 36 = .ok (.ireturn, 1) := by decide +kernel
set_option maxHeartbeats 1000000 in
set_option maxRecDepth 20000 in
theorem cw_days {l : Launch} {E : Ev} {P : Value → AH → Prop} {PX : String → AH → Prop}  {x o ou n m : Nat} {F : Nat → Int32} {A : Nat → Nat → Int32} {Fm : Nat → Int32} {Am : Nat → Nat → Int32} {h : AH} (I9 : WI E x o ou F A n m Fm Am h) {p : Int32} (hl9 : l.stackTraces = false) (kx : p < 0 ∨ 1000 < p → PX "java/lang/IllegalArgumentException" h) (k2 : ¬ (p < 0 ∨ 1000 < p) → ∀ h1, WI E x o ou (upd (upd F 0 0) 1 (imin 3000 (F 1 + p))) A n m Fm Am h1 → P (.int (imin 3000 (F 1 + p))) h1) : Mx l E yX10_days cX10_days 2 (some .int) 6 90 4 24 [.ref x, .int p] (h) P PX := by
  refine Mx.of (by decide) (Nat.le_of_ble_eq_true rfl) ?_
  intro K hK hR htab C
  obtain ⟨ad, R, z, N, f, O, W, X, rfl, rfl, rfl⟩ := I9
  have hx : h (ad 0 0) = some (.inr (10, [.ref (ad 1 0), .ref (ad 3 0), .ref (ad 10 0), .ref (ad 20 0), .int (F 19)])) := W.at 0 0 rfl
  have hk : h (ad 3 0) = some (.inr (2, [.ref (ad 4 0), .ref (ad 6 0), .ref (ad 7 0), .ref (ad 8 0), .int (F 2), .int (F 1)])) := W.at 3 0 rfl
  refine g_iload_n (n := 1) C dX10_days_0 rfl rfl ?_
  refine g_if_lt (n := 4) (t := 11) C dX10_days_1 rfl (by decide) (fun zc1 => ?_) (fun zc1 => ?_)
  · --t1
    refine g_throw (x := "java/lang/IllegalArgumentException") (text := "days are 0 to 1000") (names := ["java/lang/RuntimeException", "java/lang/Exception"]) (ik := 57) (is := 131) (ic := 61) (key := 207) C (by rw [hK]; exact hl9) htab dX10_days_11 rfl dX10_days_14 rfl dX10_days_15 rfl dX10_days_17 rfl dX10_days_20 (by decide +kernel) (by decide +kernel) w_422 w_50 (List.mem_of_getElem? (i := 18) rfl) (hat_IAE w_466) (hgood_of w_422 w_50 (hat_IAE w_466)) (roomT hR rfl) ?_
    first | exact kx (Or.inl zc1) | exact kx (Or.inr (Int32.not_le.mp zc8))
  · --f1
    refine g_iload_n (n := 5) C dX10_days_4 rfl rfl ?_
    refine g_sipush (n := 8) (v := 1000) C dX10_days_5 rfl (by decide) ?_
    refine g_icmp_le (n := 11) (t := 21) C dX10_days_8 rfl (by decide) (fun zc8 => ?_) (fun zc8 => ?_)
    · --t8
      refine g_aload_n (n := 22) C dX10_days_21 rfl rfl ?_
      refine g_get (n := 25) (T := TX10) C 1 dX10_days_22 rfl hx rfl rfl (by decide) inX10 w_235 rfl ?_
      refine g_iload_n (n := 26) C dX10_days_25 rfl rfl ?_
      refine g_callV (n := 29) (As := [.int _]) C dX10_days_26 rfl mw_X2_passDays w_876 (g_recv C hk rfl) rfl rfl (room hR rfl) (cc_gpass hk ?_)
      have hk2 : hset h (ad 3 0) (.inr (2, [.ref (ad 4 0), .ref (ad 6 0), .ref (ad 7 0), .ref (ad 8 0), .int (F 2), .int (imin (F 1 + p) 3000)])) (ad 3 0) = some (.inr (2, [.ref (ad 4 0), .ref (ad 6 0), .ref (ad 7 0), .ref (ad 8 0), .int (F 2), .int (imin (F 1 + p) 3000)])) := hset_same _ _ _
      have hx2 := (hset_ne h (.inr (2, [.ref (ad 4 0), .ref (ad 6 0), .ref (ad 7 0), .ref (ad 8 0), .int (F 2), .int (imin (F 1 + p) 3000)])) (W.ne (c := 0) (i := 0) (d := 3) (j := 0) rfl rfl (fun q _ => absurd q (by decide)))).trans hx
      refine g_aload_n (n := 30) C dX10_days_29 rfl rfl ?_
      refine g_get (n := 33) (T := TX10) C 1 dX10_days_30 rfl hx2 rfl rfl (by decide) inX10 w_235 rfl ?_
      refine g_callV (n := 36) (As := []) C dX10_days_33 rfl mw_X2_today w_368 (g_recv C hk2 rfl) rfl rfl (room hR rfl) (cc_gtoday hk2 ?_)
      refine g_x ?_
      refine g_iret C dX10_days_36 (by decide) (by decide) ?_
      have hb := X.2.2.2.2.2.2.2.2.2.2.2.2.2
      have h1 := Int32.le_iff_toInt_le.mp hb.1
      have h2 := Int32.le_iff_toInt_le.mp hb.2.1
      have h3 := Int32.le_iff_toInt_le.mp (Int32.not_lt.mp zc1)
      have h4 := Int32.le_iff_toInt_le.mp zc8
      rw [show (0 : Int32).toInt = 0 from by decide] at h1 h3
      rw [show (3000 : Int32).toInt = 3000 from by decide] at h2
      rw [show (1000 : Int32).toInt = 1000 from by decide] at h4
      have hs : (F 1 + p).toInt = (F 1).toInt + p.toInt := by
        rw [Int32.toInt_add]
        exact Int.bmod_eq_of_le (by omega) (by omega)
      have hm : 0 ≤ imin 3000 (F 1 + p) ∧ imin 3000 (F 1 + p) ≤ 3000 := by
        rw [Int32.le_iff_toInt_le, Int32.le_iff_toInt_le, imin_i, hs, show (0 : Int32).toInt = 0 from by decide, show (3000 : Int32).toInt = 3000 from by decide]
        omega
      rw [imin_c (F 1 + p) 3000]
      refine k2 (fun q => q.elim zc1 (fun y => Int32.not_le.mpr y zc8)) _ ⟨ad, R, z, N, f, O, (W.one 3 (.inr (2, [.ref (ad 4 0), .ref (ad 6 0), .ref (ad 7 0), .ref (ad 8 0), .int (F 2), .int (imin 3000 (F 1 + p))])) rfl).cast rfl, ⟨X.1, X.2.1, X.2.2.1, X.2.2.2.1, X.2.2.2.2.1, X.2.2.2.2.2.1, X.2.2.2.2.2.2.1, X.2.2.2.2.2.2.2.1, X.2.2.2.2.2.2.2.2.1, X.2.2.2.2.2.2.2.2.2.1, X.2.2.2.2.2.2.2.2.2.2.1, X.2.2.2.2.2.2.2.2.2.2.2.1, X.2.2.2.2.2.2.2.2.2.2.2.2.1, ⟨hm.1, hm.2, hb.2.2⟩⟩, rfl, rfl, rfl⟩
    · --f8
      refine g_throw (x := "java/lang/IllegalArgumentException") (text := "days are 0 to 1000") (names := ["java/lang/RuntimeException", "java/lang/Exception"]) (ik := 57) (is := 131) (ic := 61) (key := 207) C (by rw [hK]; exact hl9) htab dX10_days_11 rfl dX10_days_14 rfl dX10_days_15 rfl dX10_days_17 rfl dX10_days_20 (by decide +kernel) (by decide +kernel) w_422 w_50 (List.mem_of_getElem? (i := 18) rfl) (hat_IAE w_466) (hgood_of w_422 w_50 (hat_IAE w_466)) (roomT hR rfl) ?_
      first | exact kx (Or.inl zc1) | exact kx (Or.inr (Int32.not_le.mp zc8))
theorem dX10_span_0 : decode cX10_span 0 = .ok (.iload_n 1, 1) := by decide +kernel
theorem dX10_span_1 : decode cX10_span 1 = .ok (.invokestatic 95, 3) := by decide +kernel
theorem dX10_span_4 : decode cX10_span 4 = .ok (.aload_n 0, 1) := by decide +kernel
theorem dX10_span_5 : decode cX10_span 5 = .ok (.getfield 19, 3) := by decide +kernel
theorem dX10_span_8 : decode cX10_span 8 = .ok (.iload_n 1, 1) := by decide +kernel
theorem dX10_span_9 : decode cX10_span 9 = .ok (.invokevirtual 136, 3) := by decide +kernel
theorem dX10_span_12 : decode cX10_span 12 = .ok (.ifCond .ne 5, 3) := by decide +kernel
theorem dX10_span_15 : decode cX10_span 15 = .ok (.iconst (-1), 1) := by decide +kernel
theorem dX10_span_16 : decode cX10_span 16 = .ok (.ireturn, 1) := by decide +kernel
theorem dX10_span_17 : decode cX10_span 17 = .ok (.iload_n 2, 1) := by decide +kernel
theorem dX10_span_18 : decode cX10_span 18 = .ok (.ifCond .eq 14, 3) := by decide +kernel
theorem dX10_span_21 : decode cX10_span 21 = .ok (.aload_n 0, 1) := by decide +kernel
theorem dX10_span_22 : decode cX10_span 22 = .ok (.getfield 19, 3) := by decide +kernel
theorem dX10_span_25 : decode cX10_span 25 = .ok (.iload_n 1, 1) := by decide +kernel
theorem dX10_span_26 : decode cX10_span 26 = .ok (.invokevirtual 139, 3) := by decide +kernel
theorem dX10_span_29 : decode cX10_span 29 = .ok (.goto 11, 3) := by decide +kernel
theorem dX10_span_32 : decode cX10_span 32 = .ok (.aload_n 0, 1) := by decide +kernel
theorem dX10_span_33 : decode cX10_span 33 = .ok (.getfield 19, 3) := by decide +kernel
theorem dX10_span_36 : decode cX10_span 36 = .ok (.iload_n 1, 1) := by decide +kernel
theorem dX10_span_37 : decode cX10_span 37 = .ok (.invokevirtual 142, 3) := by decide +kernel
theorem dX10_span_40 : decode cX10_span 40 = .ok (.ireturn, 1) := by decide +kernel
set_option maxHeartbeats 1000000 in
set_option maxRecDepth 20000 in
theorem cw_span {l : Launch} {E : Ev} {P : Value → AH → Prop} {PX : String → AH → Prop}  {x o ou n m : Nat} {F : Nat → Int32} {A : Nat → Nat → Int32} {Fm : Nat → Int32} {Am : Nat → Nat → Int32} {h : AH} (I9 : WI E x o ou F A n m Fm Am h) {s m9 : Int32} (hl9 : l.stackTraces = false) (kx : s < 0 ∨ 95 < s → PX "java/lang/IndexOutOfBoundsException" h) (k2 : ¬ (s < 0 ∨ 95 < s) → rhigh (F 2) A s n < rlow (F 2) A s n → P (.int (-1)) h) (k3 : ¬ (s < 0 ∨ 95 < s) → ¬ rhigh (F 2) A s n < rlow (F 2) A s n → ¬ m9 = 0 → P (.int (rhigh (F 2) A s n)) h) (k4 : ¬ (s < 0 ∨ 95 < s) → ¬ rhigh (F 2) A s n < rlow (F 2) A s n → m9 = 0 → P (.int (rlow (F 2) A s n)) h) : Mx l E yX10_span cX10_span 3 (some .int) 7 110 4 24 [.ref x, .int s, .int m9] (h) P PX := by
  refine Mx.of (by decide) (Nat.le_of_ble_eq_true rfl) ?_
  intro K hK hR htab C
  obtain ⟨ad, R, z, N, f, O, W, X, rfl, rfl, rfl⟩ := I9
  have hx : h (ad 0 0) = some (.inr (10, [.ref (ad 1 0), .ref (ad 3 0), .ref (ad 10 0), .ref (ad 20 0), .int (F 19)])) := W.at 0 0 rfl
  have hk : h (ad 3 0) = some (.inr (2, [.ref (ad 4 0), .ref (ad 6 0), .ref (ad 7 0), .ref (ad 8 0), .int (F 2), .int (F 1)])) := W.at 3 0 rfl
  have hl : h (ad 6 0) = some (.inl (E.2.2 1, 96, .inl (R 6 0))) := W.at 6 0 rfl
  have hg : h (ad 7 0) = some (.inl (E.2.2 1, 96, .inl (R 7 0))) := W.at 7 0 rfl
  refine g_iload_n (n := 1) C dX10_span_0 rfl rfl ?_
  refine g_callSx (n := 4) (As := [.int _]) C dX10_span_1 rfl mw_X10_checkSquare w_704 rfl rfl (room hR rfl) (cw_square (by rw [hK]; exact hl9) (fun zs1 => ?_) (fun zs2 => ?_))
  · --k1.0
    obtain ⟨j, hj, ej⟩ := rng_of (x := s) (M := 95) 95 (by decide) (fun q => zs1 (Or.inl q)) (fun q => zs1 (Or.inr q))
    subst ej
    refine g_aload_n (n := 5) C dX10_span_4 rfl rfl ?_
    refine g_get (n := 8) (T := TX10) C 1 dX10_span_5 rfl hx rfl rfl (by decide) inX10 w_235 rfl ?_
    refine g_iload_n (n := 9) C dX10_span_8 rfl rfl ?_
    refine g_callV (n := 12) (As := [.int _]) C dX10_span_9 rfl mw_X2_hasSpan w_887 (g_recv C hk rfl) rfl rfl (room hR rfl) (cc_gspan hk hl hg hj (fun za9 => ?_) (fun zb9 => ?_))
    · --k9.0
      refine g_if_ne (n := 15) (t := 17) C dX10_span_12 rfl (by decide) (fun zc12 => ?_) (fun zc12 => ?_)
      rotate_left
      · exact absurd zc12 (by decide)
      refine g_iload_n (n := 18) C dX10_span_17 rfl rfl ?_
      refine g_if_eq (n := 21) (t := 32) C dX10_span_18 rfl (by decide) (fun zc18 => ?_) (fun zc18 => ?_)
      · --t18
        refine g_aload_n (n := 33) C dX10_span_32 rfl rfl ?_
        refine g_get (n := 36) (T := TX10) C 1 dX10_span_33 rfl hx rfl rfl (by decide) inX10 w_235 rfl ?_
        refine g_iload_n (n := 37) C dX10_span_36 rfl rfl ?_
        refine g_callV (n := 40) (As := [.int _]) C dX10_span_37 rfl mw_X2_leastAt w_892 (g_recv C hk rfl) rfl rfl (room hR rfl) (cc_gleast hk hl hg hj ?_)
        refine g_x ?_
        refine g_iret C dX10_span_40 (by decide) (by decide) ?_
        have h3 := X.2.2.2.1 j hj
        first | (rw [h3.1, h3.2] at zb9; exact k2 zs1 (Int32.not_le.mp zb9)) | (rw [h3.1, h3.2] at za9; first | (rw [h3.2]; exact k3 zs1 (Int32.not_lt.mpr za9) zc18) | (rw [h3.1]; exact k4 zs1 (Int32.not_lt.mpr za9) zc18))
      · --f18
        refine g_aload_n (n := 22) C dX10_span_21 rfl rfl ?_
        refine g_get (n := 25) (T := TX10) C 1 dX10_span_22 rfl hx rfl rfl (by decide) inX10 w_235 rfl ?_
        refine g_iload_n (n := 26) C dX10_span_25 rfl rfl ?_
        refine g_callV (n := 29) (As := [.int _]) C dX10_span_26 rfl mw_X2_greatestAt w_888 (g_recv C hk rfl) rfl rfl (room hR rfl) (cc_ggreat hk hl hg hj ?_)
        refine g_goto (t := 40) C dX10_span_29 (by decide) ?_
        refine g_x ?_
        refine g_iret C dX10_span_40 (by decide) (by decide) ?_
        have h3 := X.2.2.2.1 j hj
        first | (rw [h3.1, h3.2] at zb9; exact k2 zs1 (Int32.not_le.mp zb9)) | (rw [h3.1, h3.2] at za9; first | (rw [h3.2]; exact k3 zs1 (Int32.not_lt.mpr za9) zc18) | (rw [h3.1]; exact k4 zs1 (Int32.not_lt.mpr za9) zc18))
    · --k9.1
      refine g_if_ne (n := 15) (t := 17) C dX10_span_12 rfl (by decide) (fun zc12 => ?_) (fun zc12 => ?_)
      · exact absurd zc12 (by decide)
      refine g_iconst (n := 16) (v := (-1)) C dX10_span_15 rfl (by decide) ?_
      refine g_x ?_
      refine g_iret C dX10_span_16 (by decide) (by decide) ?_
      have h3 := X.2.2.2.1 j hj
      first | (rw [h3.1, h3.2] at zb9; exact k2 zs1 (Int32.not_le.mp zb9)) | (rw [h3.1, h3.2] at za9; first | (rw [h3.2]; exact k3 zs1 (Int32.not_lt.mpr za9) zc18) | (rw [h3.1]; exact k4 zs1 (Int32.not_lt.mpr za9) zc18))
  · --k1.1
    exact g_out C htab (by decide) (by decide) (kx zs2)
theorem dX10_best_0 : decode cX10_best 0 = .ok (.aload_n 0, 1) := by decide +kernel
theorem dX10_best_1 : decode cX10_best 1 = .ok (.getfield 19, 3) := by decide +kernel
theorem dX10_best_4 : decode cX10_best 4 = .ok (.invokevirtual 145, 3) := by decide +kernel
theorem dX10_best_7 : decode cX10_best 7 = .ok (.ireturn, 1) := by decide +kernel
set_option maxHeartbeats 400000 in
set_option maxRecDepth 20000 in
theorem cw_best {l : Launch} {E : Ev} {P : Value → AH → Prop}  {x o ou n m : Nat} {F : Nat → Int32} {A : Nat → Nat → Int32} {Fm : Nat → Int32} {Am : Nat → Nat → Int32} {h : AH} (I9 : WI E x o ou F A n m Fm Am h)  (hp : P (.int (rbst (F 2) A n 96).1) h) : Mt l E yX10_best cX10_best 1 (some .int) 5 113 0 0 [.ref x] (h) P := by
  refine Mt.of (by decide) (Nat.le_of_ble_eq_true rfl) ?_
  intro K hK hR C
  obtain ⟨ad, R, z, N, f, O, W, X, rfl, rfl, rfl⟩ := I9
  have hx : h (ad 0 0) = some (.inr (10, [.ref (ad 1 0), .ref (ad 3 0), .ref (ad 10 0), .ref (ad 20 0), .int (F 19)])) := W.at 0 0 rfl
  have hk : h (ad 3 0) = some (.inr (2, [.ref (ad 4 0), .ref (ad 6 0), .ref (ad 7 0), .ref (ad 8 0), .int (F 2), .int (F 1)])) := W.at 3 0 rfl
  have he : h (ad 4 0) = some (.inr (0, [.int (z 0), .ref (ad 5 0), .int (nI n)])) := W.at 4 0 rfl
  have hl : h (ad 6 0) = some (.inl (E.2.2 1, 96, .inl (R 6 0))) := W.at 6 0 rfl
  have hg : h (ad 7 0) = some (.inl (E.2.2 1, 96, .inl (R 7 0))) := W.at 7 0 rfl
  have hlw : h (ad 8 0) = some (.inr (3, [.int (A 10 0), .int (A 10 1), .int (A 10 2)])) := W.at 8 0 rfl
  obtain ⟨hd, hnN, hN, hpa, hal⟩ := w_list W X
  refine g_aload_n (n := 1) C dX10_best_0 rfl rfl ?_
  refine g_get (n := 4) (T := TX10) C 1 dX10_best_1 rfl hx rfl rfl (by decide) inX10 w_235 rfl ?_
  refine g_callV (n := 7) (As := []) C dX10_best_4 rfl mw_X2_bestSquare w_282 (g_recv C hk rfl) rfl rfl (room hR rfl) (cc_gbest hk he hd hnN hN hpa hl hg hlw ?_)
  refine g_iret C dX10_best_7 (by decide) (by decide) ?_
  rw [(best_r (fun i hi => (X.2.2.2.2.2.2.2.2.2.2.2.2.1 i hi).2) (fun q hq => X.2.2.2.1 q hq) 96 (Nat.le_refl _)).1]
  exact hp
theorem dX10_look_0 : decode cX10_look 0 = .ok (.aload_n 0, 1) := by decide +kernel
theorem dX10_look_1 : decode cX10_look 1 = .ok (.iload_n 1, 1) := by decide +kernel
theorem dX10_look_2 : decode cX10_look 2 = .ok (.invokevirtual 113, 3) := by decide +kernel
theorem dX10_look_5 : decode cX10_look 5 = .ok (.astore_n 3, 1) := by decide +kernel
theorem dX10_look_6 : decode cX10_look 6 = .ok (.iload_n 2, 1) := by decide +kernel
theorem dX10_look_7 : decode cX10_look 7 = .ok (.tableswitch 74 0 5 #[37, 42, 47, 52, 57, 69], 37) := by decide +kernel
theorem dX10_look_44 : decode cX10_look 44 = .ok (.aload_n 3, 1) := by decide +kernel
theorem dX10_look_45 : decode cX10_look 45 = .ok (.getfield 148, 3) := by decide +kernel
theorem dX10_look_48 : decode cX10_look 48 = .ok (.ireturn, 1) := by decide +kernel
theorem dX10_look_49 : decode cX10_look 49 = .ok (.aload_n 3, 1) := by decide +kernel
theorem dX10_look_50 : decode cX10_look 50 = .ok (.getfield 151, 3) := by decide +kernel
theorem dX10_look_53 : decode cX10_look 53 = .ok (.ireturn, 1) := by decide +kernel
theorem dX10_look_54 : decode cX10_look 54 = .ok (.aload_n 3, 1) := by decide +kernel
theorem dX10_look_55 : decode cX10_look 55 = .ok (.getfield 154, 3) := by decide +kernel
theorem dX10_look_58 : decode cX10_look 58 = .ok (.ireturn, 1) := by decide +kernel
theorem dX10_look_59 : decode cX10_look 59 = .ok (.aload_n 3, 1) := by decide +kernel
theorem dX10_look_60 : decode cX10_look 60 = .ok (.getfield 157, 3) := by decide +kernel
theorem dX10_look_63 : decode cX10_look 63 = .ok (.ireturn, 1) := by decide +kernel
theorem dX10_look_64 : decode cX10_look 64 = .ok (.aload_n 3, 1) := by decide +kernel
theorem dX10_look_65 : decode cX10_look 65 = .ok (.aload_n 0, 1) := by decide +kernel
theorem dX10_look_66 : decode cX10_look 66 = .ok (.getfield 19, 3) := by decide +kernel
theorem dX10_look_69 : decode cX10_look 69 = .ok (.invokevirtual 123, 3) := by decide +kernel
theorem dX10_look_72 : decode cX10_look 72 = .ok (.invokevirtual 160, 3) := by decide +kernel
theorem dX10_look_75 : decode cX10_look 75 = .ok (.ireturn, 1) := by decide +kernel
theorem dX10_look_76 : decode cX10_look 76 = .ok (.aload_n 3, 1) := by decide +kernel
theorem dX10_look_77 : decode cX10_look 77 = .ok (.getfield 163, 3) := by decide +kernel
theorem dX10_look_80 : decode cX10_look 80 = .ok (.ireturn, 1) := by decide +kernel
theorem dX10_look_81 : decode cX10_look 81 = .ok (.new 166, 3) := by decide +kernel
theorem dX10_look_84 : decode cX10_look 84 = .ok (.dup, 1) := by decide +kernel
theorem dX10_look_85 : decode cX10_look 85 = .ok (.ldc 168, 2) := by decide +kernel
theorem dX10_look_87 : decode cX10_look 87 = .ok (.invokespecial 170, 3) := by decide +kernel
theorem dX10_look_90 : decode cX10_look 90 = .ok (.athrow, 1) := by decide +kernel
set_option maxHeartbeats 1000000 in
set_option maxRecDepth 20000 in
theorem cw_look {l : Launch} {E : Ev} {P : Value → AH → Prop} {PX : String → AH → Prop}  {x o ou n m : Nat} {F : Nat → Int32} {A : Nat → Nat → Int32} {Fm : Nat → Int32} {Am : Nat → Nat → Int32} {h : AH} (I9 : WI E x o ou F A n m Fm Am h) {p w : Int32} (hl9 : l.stackTraces = false) (kx1 : p < 0 ∨ F 9 - 1 < p → PX "java/lang/IndexOutOfBoundsException" h) (k2_0 : ∀ j, j < n → p = nI j → w = 0 → P (.int (A 3 j)) h) (k2_1 : ∀ j, j < n → p = nI j → w = 1 → P (.int (A 4 j)) h) (k2_2 : ∀ j, j < n → p = nI j → w = 2 → P (.int (A 5 j)) h) (k2_3 : ∀ j, j < n → p = nI j → w = 3 → P (.int (A 6 j)) h) (k2_4 : ∀ j, j < n → p = nI j → w = 4 → P (.int (rbond F A j)) h) (k2_5 : ∀ j, j < n → p = nI j → w = 5 → P (.int (A 7 j)) h) (k3 : ∀ j, j < n → p = nI j → ¬ w = 0 → ¬ w = 1 → ¬ w = 2 → ¬ w = 3 → ¬ w = 4 → ¬ w = 5 → PX "java/util/NoSuchElementException" h) : Mx l E yX10_look cX10_look 4 (some .int) 7 111 4 24 [.ref x, .int p, .int w] (h) P PX := by
  refine Mx.of (by decide) (Nat.le_of_ble_eq_true rfl) ?_
  intro K hK hR htab C
  obtain ⟨ad, R, z, N, f, O, W, X, rfl, rfl, rfl⟩ := I9
  have hx : h (ad 0 0) = some (.inr (10, [.ref (ad 1 0), .ref (ad 3 0), .ref (ad 10 0), .ref (ad 20 0), .int (F 19)])) := W.at 0 0 rfl
  have hk : h (ad 3 0) = some (.inr (2, [.ref (ad 4 0), .ref (ad 6 0), .ref (ad 7 0), .ref (ad 8 0), .int (F 2), .int (F 1)])) := W.at 3 0 rfl
  obtain ⟨hd, hnN, hN, hpa, hal⟩ := w_list W X
  refine g_aload_n (n := 1) C dX10_look_0 rfl rfl ?_
  refine g_iload_n (n := 2) C dX10_look_1 rfl rfl ?_
  refine g_callVx (n := 5) (As := [.int _]) C dX10_look_2 rfl mw_X10_pitOf w_843 (g_recv C hx rfl) rfl rfl (room hR rfl) (cw_pitOf W X (by rw [hK]; exact hl9) (fun j hj ej => ?_) (fun zx2 => ?_))
  · --k2.0
    subst ej
    have hpb := (hpa j hj).2
    refine g_astore_n (n := 6) C dX10_look_5 rfl (by decide) ?_
    refine g_iload_n (n := 7) C dX10_look_6 rfl rfl ?_
    refine g_case (v := 0) (fun zc7_0 => ?_) (fun zc7_0 => ?_)
    · --case 0
      refine g_tableIn (t := 44) C dX10_look_7 (by decide) (by decide) (by rfl) (by decide) ?_
      refine g_aload_n (n := 45) C dX10_look_44 rfl rfl ?_
      refine g_get (n := 48) (T := TX5) C 0 dX10_look_45 rfl hpb rfl rfl (by decide) inX5 w_751 rfl ?_
      refine g_x ?_
      refine g_iret C dX10_look_48 (by decide) (by decide) ?_
      exact k2_0 j hj rfl zc7_0
    refine g_case (v := 1) (fun zc7_1 => ?_) (fun zc7_1 => ?_)
    · --case 1
      refine g_tableIn (t := 49) C dX10_look_7 (by decide) (by decide) (by rfl) (by decide) ?_
      refine g_aload_n (n := 50) C dX10_look_49 rfl rfl ?_
      refine g_get (n := 53) (T := TX5) C 1 dX10_look_50 rfl hpb rfl rfl (by decide) inX5 w_753 rfl ?_
      refine g_x ?_
      refine g_iret C dX10_look_53 (by decide) (by decide) ?_
      exact k2_1 j hj rfl zc7_1
    refine g_case (v := 2) (fun zc7_2 => ?_) (fun zc7_2 => ?_)
    · --case 2
      refine g_tableIn (t := 54) C dX10_look_7 (by decide) (by decide) (by rfl) (by decide) ?_
      refine g_aload_n (n := 55) C dX10_look_54 rfl rfl ?_
      refine g_get (n := 58) (T := TX5) C 4 dX10_look_55 rfl hpb rfl rfl (by decide) inX5 w_760 rfl ?_
      refine g_x ?_
      refine g_iret C dX10_look_58 (by decide) (by decide) ?_
      exact k2_2 j hj rfl zc7_2
    refine g_case (v := 3) (fun zc7_3 => ?_) (fun zc7_3 => ?_)
    · --case 3
      refine g_tableIn (t := 59) C dX10_look_7 (by decide) (by decide) (by rfl) (by decide) ?_
      refine g_aload_n (n := 60) C dX10_look_59 rfl rfl ?_
      refine g_get (n := 63) (T := TX5) C 5 dX10_look_60 rfl hpb rfl rfl (by decide) inX5 w_762 rfl ?_
      refine g_x ?_
      refine g_iret C dX10_look_63 (by decide) (by decide) ?_
      exact k2_3 j hj rfl zc7_3
    refine g_case (v := 4) (fun zc7_4 => ?_) (fun zc7_4 => ?_)
    · --case 4
      refine g_tableIn (t := 64) C dX10_look_7 (by decide) (by decide) (by rfl) (by decide) ?_
      refine g_aload_n (n := 65) C dX10_look_64 rfl rfl ?_
      refine g_aload_n (n := 66) C dX10_look_65 rfl rfl ?_
      refine g_get (n := 69) (T := TX10) C 1 dX10_look_66 rfl hx rfl rfl (by decide) inX10 w_235 rfl ?_
      refine g_callV (n := 72) (As := []) C dX10_look_69 rfl mw_X2_today w_368 (g_recv C hk rfl) rfl rfl (room hR rfl) (cc_gtoday hk ?_)
      refine g_callV (n := 75) (As := [.int _]) C dX10_look_72 rfl mw_X5_bondState w_904 (g_recv C hpb rfl) rfl rfl (room hR rfl) (cc_bond hpb ?_)
      refine g_x ?_
      refine g_iret C dX10_look_75 (by decide) (by decide) ?_
      rw [bond_r (X.2.2.2.2.2.2.2.2.2.2.2.2.1 j hj).2]
      exact k2_4 j hj rfl zc7_4
    refine g_case (v := 5) (fun zc7_5 => ?_) (fun zc7_5 => ?_)
    · --case 5
      refine g_tableIn (t := 76) C dX10_look_7 (by decide) (by decide) (by rfl) (by decide) ?_
      refine g_aload_n (n := 77) C dX10_look_76 rfl rfl ?_
      refine g_get (n := 80) (T := TX5) C 2 dX10_look_77 rfl hpb rfl rfl (by decide) inX5 w_755 rfl ?_
      refine g_x ?_
      refine g_iret C dX10_look_80 (by decide) (by decide) ?_
      exact k2_5 j hj rfl zc7_5
    refine g_tableOut (t := 81) C dX10_look_7 (by first | exact g_tout6 zc7_0 zc7_1 zc7_2 zc7_3 zc7_4 zc7_5) (by decide) ?_
    refine g_throwN (x := "java/util/NoSuchElementException") (text := "a pit tells 0 to 5") (sup9 := "java/lang/RuntimeException") (r9 := ["java/lang/Exception"]) (bs9 := prog_39_method_4_code) (ik := 166) (is := 168) (ic := 170) (key := 208) (k9 := 13) C (by rw [hK]; exact hl9) htab dX10_look_81 rfl dX10_look_84 rfl dX10_look_85 rfl dX10_look_87 rfl dX10_look_90 (by decide +kernel) (by decide +kernel) (by decide +kernel) (by decide +kernel) (by decide +kernel) (by decide +kernel) (by decide +kernel) w_905 w_63 (List.mem_of_getElem? (i := 19) rfl) (hat_NSE w_915) (hgood_of w_905 w_63 (hat_NSE w_915)) (roomT hR rfl) ?_
    exact k3 j hj rfl zc7_0 zc7_1 zc7_2 zc7_3 zc7_4 zc7_5
  · --k2.1
    exact g_out C htab (by decide) (by decide) (kx1 zx2)
