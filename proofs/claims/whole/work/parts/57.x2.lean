theorem dX10_end_0 : decode cX10_end 0 = .ok (.aload_n 0, 1) := by decide +kernel
theorem dX10_end_1 : decode cX10_end 1 = .ok (.getfield 10, 3) := by decide +kernel
theorem dX10_end_4 : decode cX10_end 4 = .ok (.iload_n 1, 1) := by decide +kernel
theorem dX10_end_5 : decode cX10_end 5 = .ok (.invokevirtual 53, 3) := by decide +kernel
theorem dX10_end_8 : decode cX10_end 8 = .ok (.ireturn, 1) := by decide +kernel
set_option maxHeartbeats 400000 in
set_option maxRecDepth 20000 in
theorem cw_end {l : Launch} {E : Ev} {P : Value → AH → Prop}  {x o ou n m : Nat} {F : Nat → Int32} {A : Nat → Nat → Int32} {Fm : Nat → Int32} {Am : Nat → Nat → Int32} {h : AH} (I9 : WI E x o ou F A n m Fm Am h) {n9 : Int32} (k1 : n9 < 0 ∨ F 15 < n9 → P (.int 0) h) (k2 : ¬ n9 < 0 → ¬ F 15 < n9 → ∀ h1, WI E x o ou (upd (upd F 0 0) 15 n9) A n m Fm Am h1 → P (.int 1) h1) : Mt l E yX10_end cX10_end 2 (some .boolean) 1 21 0 0 [.ref x, .int n9] (h) P := by
  refine Mt.of (by decide) (Nat.le_of_ble_eq_true rfl) ?_
  intro K hK hR C
  obtain ⟨ad, R, z, N, f, O, W, X, rfl, rfl, rfl⟩ := I9
  have hx : h (ad 0 0) = some (.inr (10, [.ref (ad 1 0), .ref (ad 3 0), .ref (ad 10 0), .ref (ad 20 0), .int (F 19)])) := W.at 0 0 rfl
  have ht : h (ad 1 0) = some (.inr (9, [.ref (ad 2 0), .int (F 15)])) := W.at 1 0 rfl
  refine g_aload_n (n := 1) C dX10_end_0 rfl rfl ?_
  refine g_get (n := 4) (T := TX10) C 0 dX10_end_1 rfl hx rfl rfl (by decide) inX10 w_234 rfl ?_
  refine g_iload_n (n := 5) C dX10_end_4 rfl rfl ?_
  refine g_callV (n := 8) (As := [.int _]) C dX10_end_5 rfl mw_X9_shorten w_270 (g_recv C ht rfl) rfl rfl (room hR rfl) (cc_tshort ht (fun za => ?_) (fun zb1 zb2 => ?_))
  · --k5.0
    refine g_zret C dX10_end_8 (by decide) (by decide) (by rfl) ?_
    exact k1 za
  · --k5.1
    refine g_zret C dX10_end_8 (by decide) (by decide) (by rfl) ?_
    refine k2 zb1 zb2 _ ⟨ad, R, z, N, f, O, (W.one 1 (.inr (9, [.ref (ad 2 0), .int n9])) rfl).cast rfl, ⟨X.1, ?_, X.2.2.1, X.2.2.2.1, X.2.2.2.2.1, X.2.2.2.2.2.1, X.2.2.2.2.2.2.1, X.2.2.2.2.2.2.2.1, X.2.2.2.2.2.2.2.2.1, X.2.2.2.2.2.2.2.2.2.1, X.2.2.2.2.2.2.2.2.2.2.1, X.2.2.2.2.2.2.2.2.2.2.2.1, X.2.2.2.2.2.2.2.2.2.2.2.2.1, X.2.2.2.2.2.2.2.2.2.2.2.2.2⟩, rfl, rfl, rfl⟩
    obtain ⟨tt, h15, htt⟩ := X.2.1
    refine ⟨n9.toInt.toNat, i_nat zb1, ?_⟩
    have h3 := Int32.le_iff_toInt_le.mp (Int32.not_lt.mp zb2)
    rw [h15, nI_i (by omega)] at h3
    omega
theorem dX10_step_0 : decode cX10_step 0 = .ok (.iload_n 1, 1) := by decide +kernel
theorem dX10_step_1 : decode cX10_step 1 = .ok (.ifCond .lt 9, 3) := by decide +kernel
theorem dX10_step_4 : decode cX10_step 4 = .ok (.iload_n 1, 1) := by decide +kernel
theorem dX10_step_5 : decode cX10_step 5 = .ok (.bipush 100, 2) := by decide +kernel
theorem dX10_step_7 : decode cX10_step 7 = .ok (.if_icmp .le 13, 3) := by decide +kernel
theorem dX10_step_10 : decode cX10_step 10 = .ok (.new 57, 3) := by decide +kernel
theorem dX10_step_13 : decode cX10_step 13 = .ok (.dup, 1) := by decide +kernel
theorem dX10_step_14 : decode cX10_step 14 = .ok (.ldc 59, 2) := by decide +kernel
theorem dX10_step_16 : decode cX10_step 16 = .ok (.invokespecial 61, 3) := by decide +kernel
theorem dX10_step_19 : decode cX10_step 19 = .ok (.athrow, 1) := by decide +kernel
theorem dX10_step_20 : decode cX10_step 20 = .ok (.aload_n 0, 1) := by decide +kernel
theorem dX10_step_21 : decode cX10_step 21 = .ok (.getfield 19, 3) := by decide +kernel
theorem dX10_step_24 : decode cX10_step 24 = .ok (.iload_n 1, 1) := by decide +kernel
theorem dX10_step_25 : decode cX10_step 25 = .ok (.invokevirtual 64, 3) := by decide +kernel
theorem dX10_step_28 : decode cX10_step 28 = .ok (.return_, 1) := by decide +kernel
set_option maxHeartbeats 1000000 in
set_option maxRecDepth 20000 in
theorem cw_step {l : Launch} {E : Ev} {P : Value → AH → Prop} {PX : String → AH → Prop}  {x o ou n m : Nat} {F : Nat → Int32} {A : Nat → Nat → Int32} {Fm : Nat → Int32} {Am : Nat → Nat → Int32} {h : AH} (I9 : WI E x o ou F A n m Fm Am h) {s : Int32} (hl9 : l.stackTraces = false) (k1 : ¬ (s < 0 ∨ 100 < s) → ∀ h1, WI E x o ou (upd (upd F 0 0) 2 s) A n m Fm Am h1 → P .null h1) (kx : s < 0 ∨ 100 < s → PX "java/lang/IllegalArgumentException" h) : Mx l E yX10_step cX10_step 2 none 6 90 4 24 [.ref x, .int s] (h) P PX := by
  refine Mx.of (by decide) (Nat.le_of_ble_eq_true rfl) ?_
  intro K hK hR htab C
  obtain ⟨ad, R, z, N, f, O, W, X, rfl, rfl, rfl⟩ := I9
  have hx : h (ad 0 0) = some (.inr (10, [.ref (ad 1 0), .ref (ad 3 0), .ref (ad 10 0), .ref (ad 20 0), .int (F 19)])) := W.at 0 0 rfl
  have hk : h (ad 3 0) = some (.inr (2, [.ref (ad 4 0), .ref (ad 6 0), .ref (ad 7 0), .ref (ad 8 0), .int (F 2), .int (F 1)])) := W.at 3 0 rfl
  have he : h (ad 4 0) = some (.inr (0, [.int (z 0), .ref (ad 5 0), .int (nI n)])) := W.at 4 0 rfl
  have hl : h (ad 6 0) = some (.inl (E.2.2 1, 96, .inl (R 6 0))) := W.at 6 0 rfl
  have hg : h (ad 7 0) = some (.inl (E.2.2 1, 96, .inl (R 7 0))) := W.at 7 0 rfl
  obtain ⟨hd, hnN, hN, hpa, hal⟩ := w_list W X
  refine g_iload_n (n := 1) C dX10_step_0 rfl rfl ?_
  refine g_if_lt (n := 4) (t := 10) C dX10_step_1 rfl (by decide) (fun zc1 => ?_) (fun zc1 => ?_)
  · --t1
    refine g_throw (x := "java/lang/IllegalArgumentException") (text := "a step is 0 to 100") (names := ["java/lang/RuntimeException", "java/lang/Exception"]) (ik := 57) (is := 59) (ic := 61) (key := 200) C (by rw [hK]; exact hl9) htab dX10_step_10 rfl dX10_step_13 rfl dX10_step_14 rfl dX10_step_16 rfl dX10_step_19 (by decide +kernel) (by decide +kernel) w_422 w_50 (List.mem_of_getElem? (i := 0) rfl) (hat_IAE w_466) (hgood_of w_422 w_50 (hat_IAE w_466)) (roomT hR rfl) ?_
    first | exact kx (Or.inl zc1) | exact kx (Or.inr (Int32.not_le.mp zc7))
  · --f1
    refine g_iload_n (n := 5) C dX10_step_4 rfl rfl ?_
    refine g_bipush (n := 7) (v := 100) C dX10_step_5 rfl (by decide) ?_
    refine g_icmp_le (n := 10) (t := 20) C dX10_step_7 rfl (by decide) (fun zc7 => ?_) (fun zc7 => ?_)
    · --t7
      refine g_aload_n (n := 21) C dX10_step_20 rfl rfl ?_
      refine g_get (n := 24) (T := TX10) C 1 dX10_step_21 rfl hx rfl rfl (by decide) inX10 w_235 rfl ?_
      refine g_iload_n (n := 25) C dX10_step_24 rfl rfl ?_
      refine g_callV (n := 28) (As := [.int _]) C dX10_step_25 rfl mw_X2_setStep w_491 (g_recv C hk rfl) rfl rfl (room hR rfl) (cc_setStep hk he hd hnN hN hpa hl hg (W.ne (c := 6) (i := 0) (d := 7) (j := 0) rfl rfl (fun q _ => absurd q (by decide))) (List.not_mem_cons_of_ne_of_not_mem (W.ne (c := 3) (i := 0) (d := 6) (j := 0) rfl rfl (fun q _ => absurd q (by decide))) (List.not_mem_cons_of_ne_of_not_mem (W.ne (c := 3) (i := 0) (d := 7) (j := 0) rfl rfl (fun q _ => absurd q (by decide))) List.not_mem_nil)) (List.not_mem_cons_of_ne_of_not_mem (W.ne (c := 4) (i := 0) (d := 3) (j := 0) rfl rfl (fun q _ => absurd q (by decide))) (List.not_mem_cons_of_ne_of_not_mem (W.ne (c := 4) (i := 0) (d := 6) (j := 0) rfl rfl (fun q _ => absurd q (by decide))) (List.not_mem_cons_of_ne_of_not_mem (W.ne (c := 4) (i := 0) (d := 7) (j := 0) rfl rfl (fun q _ => absurd q (by decide))) List.not_mem_nil))) (fun hn0 => (List.not_mem_cons_of_ne_of_not_mem (W.ne (d := 3) (j := 0) (c := 5) (i := 0) (show wV (wL E ad F A R z N f n m Fm Am O) 5 0 = some (eQ E (N 0) (f 0)) from lst_at (by omega)) rfl (fun q _ => absurd q (by decide))) (List.not_mem_cons_of_ne_of_not_mem (W.ne (d := 6) (j := 0) (c := 5) (i := 0) (show wV (wL E ad F A R z N f n m Fm Am O) 5 0 = some (eQ E (N 0) (f 0)) from lst_at (by omega)) rfl (fun q _ => absurd q (by decide))) (List.not_mem_cons_of_ne_of_not_mem (W.ne (d := 7) (j := 0) (c := 5) (i := 0) (show wV (wL E ad F A R z N f n m Fm Am O) 5 0 = some (eQ E (N 0) (f 0)) from lst_at (by omega)) rfl (fun q _ => absurd q (by decide))) List.not_mem_nil)))) (fun i hi => (List.not_mem_cons_of_ne_of_not_mem (W.ne (d := 3) (j := 0) (c := 9) (i := i) (show wV (wL E ad F A R z N f n m Fm Am O) 9 i = some (pitE A i) from many_at (g := pitE A) hi) rfl (fun q _ => absurd q (by decide))) (List.not_mem_cons_of_ne_of_not_mem (W.ne (d := 6) (j := 0) (c := 9) (i := i) (show wV (wL E ad F A R z N f n m Fm Am O) 9 i = some (pitE A i) from many_at (g := pitE A) hi) rfl (fun q _ => absurd q (by decide))) (List.not_mem_cons_of_ne_of_not_mem (W.ne (d := 7) (j := 0) (c := 9) (i := i) (show wV (wL E ad F A R z N f n m Fm Am O) 9 i = some (pitE A i) from many_at (g := pitE A) hi) rfl (fun q _ => absurd q (by decide))) List.not_mem_nil)))) ?_)
      refine g_x ?_
      refine g_vret C dX10_step_28 (by decide) (by decide) ?_
      rw [LW_cons, LW_cons, LW_cons, LW_nil]
      refine k1 (fun q => q.elim zc1 (fun y => Int32.not_le.mpr y zc7)) _ ⟨ad, (rset (rset R 7 0 (gHi A (R 7 0) s n)) 6 0 (gLo A (R 6 0) s n)), z, N, f, O, (((W.one 7 (.inl (E.2.2 1, 96, .inl (gHi A (R 7 0) s n))) rfl).one 6 (.inl (E.2.2 1, 96, .inl (gLo A (R 6 0) s n))) rfl).one 3 (.inr (2, [.ref (ad 4 0), .ref (ad 6 0), .ref (ad 7 0), .ref (ad 8 0), .int s, .int (F 1)])) rfl).cast rfl, ⟨X.1, X.2.1, X.2.2.1, fun q hq => ⟨gLo_r hq n (fun i hi => (X.2.2.2.2.2.2.2.2.2.2.2.2.1 i hi).1), gHi_r hq n (fun i hi => (X.2.2.2.2.2.2.2.2.2.2.2.2.1 i hi).1)⟩, X.2.2.2.2.1, X.2.2.2.2.2.1, X.2.2.2.2.2.2.1, X.2.2.2.2.2.2.2.1, X.2.2.2.2.2.2.2.2.1, X.2.2.2.2.2.2.2.2.2.1, X.2.2.2.2.2.2.2.2.2.2.1, X.2.2.2.2.2.2.2.2.2.2.2.1, X.2.2.2.2.2.2.2.2.2.2.2.2.1, X.2.2.2.2.2.2.2.2.2.2.2.2.2⟩, rfl, rfl, rfl⟩
    · --f7
      refine g_throw (x := "java/lang/IllegalArgumentException") (text := "a step is 0 to 100") (names := ["java/lang/RuntimeException", "java/lang/Exception"]) (ik := 57) (is := 59) (ic := 61) (key := 200) C (by rw [hK]; exact hl9) htab dX10_step_10 rfl dX10_step_13 rfl dX10_step_14 rfl dX10_step_16 rfl dX10_step_19 (by decide +kernel) (by decide +kernel) w_422 w_50 (List.mem_of_getElem? (i := 0) rfl) (hat_IAE w_466) (hgood_of w_422 w_50 (hat_IAE w_466)) (roomT hR rfl) ?_
      first | exact kx (Or.inl zc1) | exact kx (Or.inr (Int32.not_le.mp zc7))
theorem asink_ne {A : Nat → Nat → Int32} {n : Nat} {x1 x2 x3 x4 x5 x6 : Int32} {k i : Nat} (hi : i ≠ n) : aset (aset (aset (aset (aset (aset A 3 n x1) 4 n x2) 5 n x3) 6 n x4) 7 n x5) 8 n x6 k i = A k i := by
  rw [aset_ne _ _ (fun q => hi q.2), aset_ne _ _ (fun q => hi q.2), aset_ne _ _ (fun q => hi q.2), aset_ne _ _ (fun q => hi q.2), aset_ne _ _ (fun q => hi q.2), aset_ne _ _ (fun q => hi q.2)]
theorem asink_at {A : Nat → Nat → Int32} {n : Nat} {x1 x2 x3 x4 x5 x6 : Int32} : pitE (aset (aset (aset (aset (aset (aset A 3 n x1) 4 n x2) 5 n x3) 6 n x4) 7 n x5) 8 n x6) n = .inr (5, [.int x1, .int x2, .int x5, .int x6, .int x3, .int x4]) := by
  simp [pitE, aset]
def nset {T : Type} (N : Nat → T) (a : Nat) (x : T) : Nat → T := fun b => if b = a then x else N b
theorem adset_ne {ad : Nat → Nat → Nat} {c i q a b : Nat} (h : ¬ (a = c ∧ b = i)) : adset ad c i q a b = ad a b := if_neg h
theorem dX10_sink_0 : decode cX10_sink 0 = .ok (.iload_n 1, 1) := by decide +kernel
theorem dX10_sink_1 : decode cX10_sink 1 = .ok (.invokestatic 95, 3) := by decide +kernel
theorem dX10_sink_4 : decode cX10_sink 4 = .ok (.aload_n 0, 1) := by decide +kernel
theorem dX10_sink_5 : decode cX10_sink 5 = .ok (.getfield 19, 3) := by decide +kernel
theorem dX10_sink_8 : decode cX10_sink 8 = .ok (.invokevirtual 98, 3) := by decide +kernel
theorem dX10_sink_11 : decode cX10_sink 11 = .ok (.bipush 30, 2) := by decide +kernel
theorem dX10_sink_13 : decode cX10_sink 13 = .ok (.if_icmp .lt 13, 3) := by decide +kernel
theorem dX10_sink_16 : decode cX10_sink 16 = .ok (.new 101, 3) := by decide +kernel
theorem dX10_sink_19 : decode cX10_sink 19 = .ok (.dup, 1) := by decide +kernel
theorem dX10_sink_20 : decode cX10_sink 20 = .ok (.ldc 103, 2) := by decide +kernel
theorem dX10_sink_22 : decode cX10_sink 22 = .ok (.invokespecial 105, 3) := by decide +kernel
theorem dX10_sink_25 : decode cX10_sink 25 = .ok (.athrow, 1) := by decide +kernel
theorem dX10_sink_26 : decode cX10_sink 26 = .ok (.aload_n 0, 1) := by decide +kernel
theorem dX10_sink_27 : decode cX10_sink 27 = .ok (.getfield 19, 3) := by decide +kernel
theorem dX10_sink_30 : decode cX10_sink 30 = .ok (.iload_n 1, 1) := by decide +kernel
theorem dX10_sink_31 : decode cX10_sink 31 = .ok (.invokevirtual 106, 3) := by decide +kernel
theorem dX10_sink_34 : decode cX10_sink 34 = .ok (.ifCond .eq 14, 3) := by decide +kernel
theorem dX10_sink_37 : decode cX10_sink 37 = .ok (.aload_n 0, 1) := by decide +kernel
theorem dX10_sink_38 : decode cX10_sink 38 = .ok (.getfield 19, 3) := by decide +kernel
theorem dX10_sink_41 : decode cX10_sink 41 = .ok (.iload_n 1, 1) := by decide +kernel
theorem dX10_sink_42 : decode cX10_sink 42 = .ok (.invokevirtual 109, 3) := by decide +kernel
theorem dX10_sink_45 : decode cX10_sink 45 = .ok (.goto 4, 3) := by decide +kernel
theorem dX10_sink_48 : decode cX10_sink 48 = .ok (.iconst (-1), 1) := by decide +kernel
theorem dX10_sink_49 : decode cX10_sink 49 = .ok (.ireturn, 1) := by decide +kernel
set_option maxHeartbeats 2000000 in
set_option maxRecDepth 20000 in
theorem cw_sink {l : Launch} {E : Ev} {P : Value → AH → Prop} {PX : String → AH → Prop}  {x o ou n m : Nat} {F : Nat → Int32} {A : Nat → Nat → Int32} {Fm : Nat → Int32} {Am : Nat → Nat → Int32} {h : AH} (I9 : WI E x o ou F A n m Fm Am h) {s : Int32} (hl9 : l.stackTraces = false) (kx1 : s < 0 ∨ 95 < s → PX "java/lang/IndexOutOfBoundsException" h) (kx2 : ¬ (s < 0 ∨ 95 < s) → n = 30 → PX "java/lang/UnsupportedOperationException" h) (k3 : ¬ (s < 0 ∨ 95 < s) → n < 30 → ¬ rmay A s n → P (.int (-1)) h) (k4 : ¬ (s < 0 ∨ 95 < s) → n < 30 → rmay A s n → ∀ h1, WI E x o ou (upd (upd F 0 0) 9 (nI (n + 1))) (aset (aset (aset (aset (aset (aset A 3 n s) 4 n (F 1)) 5 n (-1)) 6 n (-1)) 7 n (F 1 + A 10 1)) 8 n (A 10 2)) (n + 1) m Fm Am h1 → P (.int (nI n)) h1) : Mx l E yX10_sink cX10_sink 2 (some .int) 8 173 3 112 [.ref x, .int s] (h) P PX := by
  refine Mx.of (by decide) (Nat.le_of_ble_eq_true rfl) ?_
  intro K hK hR htab C
  obtain ⟨ad, R, z, N, f, O, W, X, rfl, rfl, rfl⟩ := I9
  have hx : h (ad 0 0) = some (.inr (10, [.ref (ad 1 0), .ref (ad 3 0), .ref (ad 10 0), .ref (ad 20 0), .int (F 19)])) := W.at 0 0 rfl
  have hk : h (ad 3 0) = some (.inr (2, [.ref (ad 4 0), .ref (ad 6 0), .ref (ad 7 0), .ref (ad 8 0), .int (F 2), .int (F 1)])) := W.at 3 0 rfl
  have he : h (ad 4 0) = some (.inr (0, [.int (z 0), .ref (ad 5 0), .int (nI n)])) := W.at 4 0 rfl
  have hlw : h (ad 8 0) = some (.inr (3, [.int (A 10 0), .int (A 10 1), .int (A 10 2)])) := W.at 8 0 rfl
  obtain ⟨hd, hnN, hN, hpa, hal⟩ := w_list W X
  have hX30 := X.1.2.1
  refine g_iload_n (n := 1) C dX10_sink_0 rfl rfl ?_
  refine g_callSx (n := 4) (As := [.int _]) C dX10_sink_1 rfl mw_X10_checkSquare w_704 rfl rfl (room hR rfl) (cw_square (by rw [hK]; exact hl9) (fun zs1 => ?_) (fun zs2 => ?_))
  · --k1.0
    refine g_aload_n (n := 5) C dX10_sink_4 rfl rfl ?_
    refine g_get (n := 8) (T := TX10) C 1 dX10_sink_5 rfl hx rfl rfl (by decide) inX10 w_235 rfl ?_
    refine g_callV (n := 11) (As := []) C dX10_sink_8 rfl mw_X2_pits w_372 (g_recv C hk rfl) rfl rfl (room hR rfl) (cc_gpits hk he ?_)
    refine g_bipush (n := 13) (v := 30) C dX10_sink_11 rfl (by decide) ?_
    refine g_icmp_lt (n := 16) (t := 26) C dX10_sink_13 rfl (by decide) (fun zc13 => ?_) (fun zc13 => ?_)
    · --t13
      have hnlt : n < 30 := by
        rcases Nat.lt_or_ge n 30 with q | q
        · exact q
        · exact absurd zc13 (Int32.not_lt.mpr (nI_le q (by omega)))
      refine g_aload_n (n := 27) C dX10_sink_26 rfl rfl ?_
      refine g_get (n := 30) (T := TX10) C 1 dX10_sink_27 rfl hx rfl rfl (by decide) inX10 w_235 rfl ?_
      refine g_iload_n (n := 31) C dX10_sink_30 rfl rfl ?_
      refine g_callV (n := 34) (As := [.int _]) C dX10_sink_31 rfl mw_X2_maySink w_739 (g_recv C hk rfl) rfl rfl (room hR rfl) (cc_gmay hk he hd hnN hN hpa hlw (fun za31 => ?_) (fun zb31 => ?_))
      · --k31.0
        refine g_if_eq (n := 37) (t := 48) C dX10_sink_34 rfl (by decide) (fun zc34 => ?_) (fun zc34 => ?_)
        · exact absurd zc34 (by decide)
        refine g_aload_n (n := 38) C dX10_sink_37 rfl rfl ?_
        refine g_get (n := 41) (T := TX10) C 1 dX10_sink_38 rfl hx rfl rfl (by decide) inX10 w_235 rfl ?_
        refine g_iload_n (n := 42) C dX10_sink_41 rfl rfl ?_
        refine g_callV (n := 45) (As := [.int _]) C dX10_sink_42 rfl mw_X2_sinkAt w_740 (g_recv C hk rfl) rfl rfl (room hR rfl) (cc_sinkAt hk he hal (by omega) hlw (fun q9 e9 M9 g9 hq9 hze hea hz1 hz2 hz3 => ?_))
        refine g_goto (t := 49) C dX10_sink_45 (by decide) ?_
        refine g_x ?_
        refine g_iret C dX10_sink_49 (by decide) (by decide) ?_
        have hmay : rmay A s n := (may_r (fun i hi => (X.2.2.2.2.2.2.2.2.2.2.2.2.1 i hi).2)).mp za31
        have h5n : (aset (aset (aset (aset (aset (aset A 3 n s) 4 n (F 1)) 5 n (-1)) 6 n (-1)) 7 n (F 1 + A 10 1)) 8 n (A 10 2)) 5 n = -1 := by simp [aset]
        have h6n : (aset (aset (aset (aset (aset (aset A 3 n s) 4 n (F 1)) 5 n (-1)) 6 n (-1)) 7 n (F 1 + A 10 1)) 8 n (A 10 2)) 6 n = -1 := by simp [aset]
        have hlo : ∀ q, rlow (F 2) (aset (aset (aset (aset (aset (aset A 3 n s) 4 n (F 1)) 5 n (-1)) 6 n (-1)) 7 n (F 1 + A 10 1)) 8 n (A 10 2)) q (n + 1) = rlow (F 2) A q n := fun q => by
          conv => lhs; unfold rlow
          rw [h5n, if_pos (by decide)]
          exact rlow_c n (fun i hi => ⟨asink_ne (by omega), asink_ne (by omega)⟩)
        have hhi : ∀ q, rhigh (F 2) (aset (aset (aset (aset (aset (aset A 3 n s) 4 n (F 1)) 5 n (-1)) 6 n (-1)) 7 n (F 1 + A 10 1)) 8 n (A 10 2)) q (n + 1) = rhigh (F 2) A q n := fun q => by
          conv => lhs; unfold rhigh
          rw [h5n, if_pos (by decide)]
          exact rhigh_c n (fun i hi => ⟨asink_ne (by omega), asink_ne (by omega)⟩)
        have hpits : ∀ i, i < n + 1 → ((aset (aset (aset (aset (aset (aset A 3 n s) 4 n (F 1)) 5 n (-1)) 6 n (-1)) 7 n (F 1 + A 10 1)) 8 n (A 10 2)) 5 i = -1 ∨ 0 ≤ (aset (aset (aset (aset (aset (aset A 3 n s) 4 n (F 1)) 5 n (-1)) 6 n (-1)) 7 n (F 1 + A 10 1)) 8 n (A 10 2)) 5 i) ∧ ((aset (aset (aset (aset (aset (aset A 3 n s) 4 n (F 1)) 5 n (-1)) 6 n (-1)) 7 n (F 1 + A 10 1)) 8 n (A 10 2)) 6 i = -1 ∨ 0 ≤ (aset (aset (aset (aset (aset (aset A 3 n s) 4 n (F 1)) 5 n (-1)) 6 n (-1)) 7 n (F 1 + A 10 1)) 8 n (A 10 2)) 6 i) := fun i hi => by
          by_cases c : i = n
          · subst c
            exact ⟨Or.inl h5n, Or.inl h6n⟩
          · rw [asink_ne c, asink_ne c]
            exact X.2.2.2.2.2.2.2.2.2.2.2.2.1 i (by omega)
        rw [LW_one] at hze ⊢
        have W1 := W.manynew 9 (g := pitE A) (pitE (aset (aset (aset (aset (aset (aset A 3 n s) 4 n (F 1)) 5 n (-1)) 6 n (-1)) 7 n (F 1 + A 10 1)) 8 n (A 10 2))) (.inr (5, [.int s, .int (F 1), .int (F 1 + A 10 1), .int (A 10 2), .int (-1), .int (-1)])) hq9 rfl (fun i hi => by unfold pitE; rw [asink_ne (by omega), asink_ne (by omega), asink_ne (by omega), asink_ne (by omega), asink_ne (by omega), asink_ne (by omega)]) asink_at
        have hlst : ∀ i, i < n + 1 → va_up g9 n (some q9) i = some (adset ad 9 n q9 9 i) := fun i hi => by
          by_cases c : i = n
          · subst c
            simp [va_up, adset]
          · rw [adset_ne (fun q => c q.2), ← X.2.2.2.2.1.2.2.2 i (by omega), ← hz3 i (by omega)]
            simp [va_up, c]
        rcases hze with ⟨rfl, h1N⟩ | hze
        · have W3 := (W1.lst 5 (N := N 0) (M := M9) (va_up g9 n (some q9)) rfl h1N (by omega)).one 4 (.inr (0, [.int (z 0 + 1), .ref (ad 5 0), .int (nI (n + 1))])) rfl
          exact k4 zs1 hnlt hmay _ ⟨adset ad 9 n q9, R, nset z 0 (z 0 + 1), nset N 0 M9, nset f 0 (va_up g9 n (some q9)), O, (W3).cast rfl, ⟨⟨rfl, by omega, X.1.2.2.1, X.1.2.2.2⟩, X.2.1, X.2.2.1, fun q hq => ⟨(X.2.2.2.1 q hq).1.trans (hlo (nI q)).symm, (X.2.2.2.1 q hq).2.trans (hhi (nI q)).symm⟩, ⟨hz1, hz2, fun q => absurd (show M9 = 0 from q) (by omega), fun i hi => hlst i hi⟩, X.2.2.2.2.2.1, X.2.2.2.2.2.2.1, X.2.2.2.2.2.2.2.1, X.2.2.2.2.2.2.2.2.1, X.2.2.2.2.2.2.2.2.2.1, X.2.2.2.2.2.2.2.2.2.2.1, X.2.2.2.2.2.2.2.2.2.2.2.1, hpits, X.2.2.2.2.2.2.2.2.2.2.2.2.2⟩, rfl, rfl, rfl⟩
        · have W3 := (W1.lstnew 5 (N := N 0) (M := M9) (va_up g9 n (some q9)) hze rfl (by omega)).one 4 (.inr (0, [.int (z 0 + 1), .ref e9, .int (nI (n + 1))])) rfl
          exact k4 zs1 hnlt hmay _ ⟨adset (adset ad 9 n q9) 5 0 e9, R, nset z 0 (z 0 + 1), nset N 0 M9, nset f 0 (va_up g9 n (some q9)), O, (W3).cast rfl, ⟨⟨rfl, by omega, X.1.2.2.1, X.1.2.2.2⟩, X.2.1, X.2.2.1, fun q hq => ⟨(X.2.2.2.1 q hq).1.trans (hlo (nI q)).symm, (X.2.2.2.1 q hq).2.trans (hhi (nI q)).symm⟩, ⟨hz1, hz2, fun q => absurd (show M9 = 0 from q) (by omega), fun i hi => hlst i hi⟩, X.2.2.2.2.2.1, X.2.2.2.2.2.2.1, X.2.2.2.2.2.2.2.1, X.2.2.2.2.2.2.2.2.1, X.2.2.2.2.2.2.2.2.2.1, X.2.2.2.2.2.2.2.2.2.2.1, X.2.2.2.2.2.2.2.2.2.2.2.1, hpits, X.2.2.2.2.2.2.2.2.2.2.2.2.2⟩, rfl, rfl, rfl⟩
      · --k31.1
        refine g_if_eq (n := 37) (t := 48) C dX10_sink_34 rfl (by decide) (fun zc34 => ?_) (fun zc34 => ?_)
        rotate_left
        · exact absurd zc34 (by decide)
        refine g_iconst (n := 49) (v := (-1)) C dX10_sink_48 rfl (by decide) ?_
        refine g_x ?_
        refine g_iret C dX10_sink_49 (by decide) (by decide) ?_
        exact k3 zs1 hnlt (fun q => zb31 ((may_r (fun i hi => (X.2.2.2.2.2.2.2.2.2.2.2.2.1 i hi).2)).mpr q))
    · --f13
      refine g_throw (x := "java/lang/UnsupportedOperationException") (text := "there are 30 pits") (names := ["java/lang/RuntimeException", "java/lang/Exception"]) (ik := 101) (is := 103) (ic := 105) (key := 204) C (by rw [hK]; exact hl9) htab dX10_sink_16 rfl dX10_sink_19 rfl dX10_sink_20 rfl dX10_sink_22 rfl dX10_sink_25 (by decide +kernel) (by decide +kernel) w_723 w_59 (List.mem_of_getElem? (i := 15) rfl) (hat_UOE w_733) (hgood_of w_723 w_59 (hat_UOE w_733)) (roomT hR rfl) ?_
      have hn30 : n = 30 := by
        have hq9 := X.1.2.1
        rcases Nat.lt_or_ge n 30 with q | q
        · exact absurd (nI_lt q (by decide)) zc13
        · omega
      exact kx2 zs1 hn30
  · --k1.1
    exact g_out C htab (by decide) (by decide) (kx1 zs2)
