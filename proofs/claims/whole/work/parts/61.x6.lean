theorem fz_28 (A : Nat → Nat → Int32) : fz A 80 28 = flf (A 28) 0 80 := by
  funext b
  unfold fz flf
  by_cases c : b < 80
  · rw [if_pos ⟨rfl, c⟩, if_pos c]
  · rw [if_neg (fun q => c q.2), if_neg c]
theorem fz_ne (A : Nat → Nat → Int32) {k : Nat} (h : k ≠ 28) : fz A 80 k = A k := by
  funext b
  unfold fz
  rw [if_neg (fun q => h q.1)]
theorem dX10_rough_0 : decode cX10_rough 0 = .ok (.iload_n 1, 1) := by decide +kernel
theorem dX10_rough_1 : decode cX10_rough 1 = .ok (.iconst 1, 1) := by decide +kernel
theorem dX10_rough_2 : decode cX10_rough 2 = .ok (.if_icmp .lt 20, 3) := by decide +kernel
theorem dX10_rough_5 : decode cX10_rough 5 = .ok (.iload_n 1, 1) := by decide +kernel
theorem dX10_rough_6 : decode cX10_rough 6 = .ok (.bipush 10, 2) := by decide +kernel
theorem dX10_rough_8 : decode cX10_rough 8 = .ok (.if_icmp .gt 14, 3) := by decide +kernel
theorem dX10_rough_11 : decode cX10_rough 11 = .ok (.iload_n 2, 1) := by decide +kernel
theorem dX10_rough_12 : decode cX10_rough 12 = .ok (.iconst 1, 1) := by decide +kernel
theorem dX10_rough_13 : decode cX10_rough 13 = .ok (.if_icmp .lt 9, 3) := by decide +kernel
theorem dX10_rough_16 : decode cX10_rough 16 = .ok (.iload_n 2, 1) := by decide +kernel
theorem dX10_rough_17 : decode cX10_rough 17 = .ok (.bipush 8, 2) := by decide +kernel
theorem dX10_rough_19 : decode cX10_rough 19 = .ok (.if_icmp .le 13, 3) := by decide +kernel
theorem dX10_rough_22 : decode cX10_rough 22 = .ok (.new 57, 3) := by decide +kernel
theorem dX10_rough_25 : decode cX10_rough 25 = .ok (.dup, 1) := by decide +kernel
theorem dX10_rough_26 : decode cX10_rough 26 = .ok (.ldc 243, 2) := by decide +kernel
theorem dX10_rough_28 : decode cX10_rough 28 = .ok (.invokespecial 61, 3) := by decide +kernel
theorem dX10_rough_31 : decode cX10_rough 31 = .ok (.athrow, 1) := by decide +kernel
theorem dX10_rough_32 : decode cX10_rough 32 = .ok (.aload_n 0, 1) := by decide +kernel
theorem dX10_rough_33 : decode cX10_rough 33 = .ok (.getfield 33, 3) := by decide +kernel
theorem dX10_rough_36 : decode cX10_rough 36 = .ok (.iload_n 1, 1) := by decide +kernel
theorem dX10_rough_37 : decode cX10_rough 37 = .ok (.iload_n 2, 1) := by decide +kernel
theorem dX10_rough_38 : decode cX10_rough 38 = .ok (.invokevirtual 245, 3) := by decide +kernel
theorem dX10_rough_41 : decode cX10_rough 41 = .ok (.return_, 1) := by decide +kernel
set_option maxHeartbeats 2000000 in
set_option maxRecDepth 20000 in
theorem cw_rough {l : Launch} {E : Ev} {P : Value → AH → Prop} {PX : String → AH → Prop}  {x o ou n m : Nat} {F : Nat → Int32} {A : Nat → Nat → Int32} {Fm : Nat → Int32} {Am : Nat → Nat → Int32} {h : AH} (I9 : WI E x o ou F A n m Fm Am h) {w g : Int32} (hl9 : l.stackTraces = false) (kx : ((w < 1 ∨ 10 < w) ∨ (g < 1 ∨ 8 < g)) → PX "java/lang/IllegalArgumentException" h) (k2 : ¬ ((w < 1 ∨ 10 < w) ∨ (g < 1 ∨ 8 < g)) → ∀ h1, WI E x o ou (upd (upd (upd F 0 0) 26 w) 27 g) (fz A 80) n m Fm Am h1 → P .null h1) : Mx l E yX10_rough cX10_rough 3 none 6 90 4 24 [.ref x, .int w, .int g] (h) P PX := by
  refine Mx.of (by decide) (Nat.le_of_ble_eq_true rfl) ?_
  intro K hK hR htab C
  obtain ⟨ad, R, z, N, f, O, W, X, rfl, rfl, rfl⟩ := I9
  have hx : h (ad 0 0) = some (.inr (10, [.ref (ad 1 0), .ref (ad 3 0), .ref (ad 10 0), .ref (ad 20 0), .int (F 19)])) := W.at 0 0 rfl
  have hgm : h (ad 20 0) = some (.inr (7, [.ref (ad 21 0), .ref (ad 22 0), .ref (ad 23 0), .ref (ad 24 0), .int (F 26), .int (F 27), .int (z 2)])) := W.at 20 0 rfl
  have hfl : h (ad 21 0) = some (.inl (E.2.2 2, 80, .inl (A 28))) := W.at 21 0 rfl
  refine g_iload_n (n := 1) C dX10_rough_0 rfl rfl ?_
  refine g_iconst (n := 2) (v := 1) C dX10_rough_1 rfl (by decide) ?_
  refine g_icmp_lt (n := 5) (t := 22) C dX10_rough_2 rfl (by decide) (fun zc2 => ?_) (fun zc2 => ?_)
  · --t2
    refine g_throw (x := "java/lang/IllegalArgumentException") (text := "a rough is 1 to 10 wide and 1 to 8 high") (names := ["java/lang/RuntimeException", "java/lang/Exception"]) (ik := 57) (is := 243) (ic := 61) (key := 217) C (by rw [hK]; exact hl9) htab dX10_rough_22 rfl dX10_rough_25 rfl dX10_rough_26 rfl dX10_rough_28 rfl dX10_rough_31 (by decide +kernel) (by decide +kernel) w_422 w_50 (List.mem_of_getElem? (i := 28) rfl) (hat_IAE w_466) (hgood_of w_422 w_50 (hat_IAE w_466)) (roomT hR rfl) ?_
    first | exact kx (Or.inl (Or.inl zc2)) | exact kx (Or.inl (Or.inr (Int32.not_le.mp zc8))) | exact kx (Or.inl (Or.inr zc8)) | exact kx (Or.inr (Or.inl zc13)) | exact kx (Or.inr (Or.inr (Int32.not_le.mp zc19)))
  · --f2
    refine g_iload_n (n := 6) C dX10_rough_5 rfl rfl ?_
    refine g_bipush (n := 8) (v := 10) C dX10_rough_6 rfl (by decide) ?_
    refine g_icmp_gt (n := 11) (t := 22) C dX10_rough_8 rfl (by decide) (fun zc8 => ?_) (fun zc8 => ?_)
    · --t8
      refine g_throw (x := "java/lang/IllegalArgumentException") (text := "a rough is 1 to 10 wide and 1 to 8 high") (names := ["java/lang/RuntimeException", "java/lang/Exception"]) (ik := 57) (is := 243) (ic := 61) (key := 217) C (by rw [hK]; exact hl9) htab dX10_rough_22 rfl dX10_rough_25 rfl dX10_rough_26 rfl dX10_rough_28 rfl dX10_rough_31 (by decide +kernel) (by decide +kernel) w_422 w_50 (List.mem_of_getElem? (i := 28) rfl) (hat_IAE w_466) (hgood_of w_422 w_50 (hat_IAE w_466)) (roomT hR rfl) ?_
      first | exact kx (Or.inl (Or.inl zc2)) | exact kx (Or.inl (Or.inr (Int32.not_le.mp zc8))) | exact kx (Or.inl (Or.inr zc8)) | exact kx (Or.inr (Or.inl zc13)) | exact kx (Or.inr (Or.inr (Int32.not_le.mp zc19)))
    · --f8
      refine g_iload_n (n := 12) C dX10_rough_11 rfl rfl ?_
      refine g_iconst (n := 13) (v := 1) C dX10_rough_12 rfl (by decide) ?_
      refine g_icmp_lt (n := 16) (t := 22) C dX10_rough_13 rfl (by decide) (fun zc13 => ?_) (fun zc13 => ?_)
      · --t13
        refine g_throw (x := "java/lang/IllegalArgumentException") (text := "a rough is 1 to 10 wide and 1 to 8 high") (names := ["java/lang/RuntimeException", "java/lang/Exception"]) (ik := 57) (is := 243) (ic := 61) (key := 217) C (by rw [hK]; exact hl9) htab dX10_rough_22 rfl dX10_rough_25 rfl dX10_rough_26 rfl dX10_rough_28 rfl dX10_rough_31 (by decide +kernel) (by decide +kernel) w_422 w_50 (List.mem_of_getElem? (i := 28) rfl) (hat_IAE w_466) (hgood_of w_422 w_50 (hat_IAE w_466)) (roomT hR rfl) ?_
        first | exact kx (Or.inl (Or.inl zc2)) | exact kx (Or.inl (Or.inr (Int32.not_le.mp zc8))) | exact kx (Or.inl (Or.inr zc8)) | exact kx (Or.inr (Or.inl zc13)) | exact kx (Or.inr (Or.inr (Int32.not_le.mp zc19)))
      · --f13
        refine g_iload_n (n := 17) C dX10_rough_16 rfl rfl ?_
        refine g_bipush (n := 19) (v := 8) C dX10_rough_17 rfl (by decide) ?_
        refine g_icmp_le (n := 22) (t := 32) C dX10_rough_19 rfl (by decide) (fun zc19 => ?_) (fun zc19 => ?_)
        · --t19
          refine g_aload_n (n := 33) C dX10_rough_32 rfl rfl ?_
          refine g_get (n := 36) (T := TX10) C 3 dX10_rough_33 rfl hx rfl rfl (by decide) inX10 w_237 rfl ?_
          refine g_iload_n (n := 37) C dX10_rough_36 rfl rfl ?_
          refine g_iload_n (n := 38) C dX10_rough_37 rfl rfl ?_
          refine g_callV (n := 41) (As := [.int _, .int _]) C dX10_rough_38 rfl mw_X7_begin w_1074 (g_recv C hgm rfl) rfl rfl (room hR rfl) (cc_begin hgm hfl (W.ne (c := 20) (i := 0) (d := 21) (j := 0) rfl rfl (fun q _ => absurd q (by decide))) ?_)
          refine g_x ?_
          refine g_vret C dX10_rough_41 (by decide) (by decide) ?_
          obtain ⟨w9, hw9, ew⟩ := rng_of (x := w) (M := 10) 10 (by decide) (fun q => zc2 (Int32.lt_trans q (by decide))) zc8
          obtain ⟨g9, hg9, eg⟩ := rng_of (x := g) (M := 8) 8 (by decide) (fun q => zc13 (Int32.lt_trans q (by decide))) (fun q => Int32.not_le.mpr q zc19)
          have hw1 : 1 ≤ w9 := by
            rcases Nat.lt_or_ge w9 1 with q | q
            · exact absurd (by rw [ew]; exact nI_lt q (by decide)) zc2
            · exact q
          have hg1 : 1 ≤ g9 := by
            rcases Nat.lt_or_ge g9 1 with q | q
            · exact absurd (by rw [eg]; exact nI_lt q (by decide)) zc13
            · exact q
          rw [LW_cons, LW_cons, LW_nil]
          dsimp only
          rw [← fz_28]
          have W1 := (W.one 21 (.inl (E.2.2 2, 80, .inl (fz A 80 28))) rfl).one 20 (.inr (7, [.ref (ad 21 0), .ref (ad 22 0), .ref (ad 23 0), .ref (ad 24 0), .int w, .int g, .int 0])) rfl
          have hL : ((wL E ad F A R z N f n m Fm Am O).set 21 (one9 (.inl (E.2.2 2, 80, .inl (fz A 80 28))))).set 20 (one9 (.inr (7, [.ref (ad 21 0), .ref (ad 22 0), .ref (ad 23 0), .ref (ad 24 0), .int w, .int g, .int 0]))) = wL E ad (upd (upd (upd F 0 0) 26 w) 27 g) (fz A 80) R (nset z 2 0) N f n m Fm Am O := by
            unfold wL
            rw [fz_ne A (show 14 ≠ 28 by decide), fz_ne A (show 10 ≠ 28 by decide), fz_ne A (show 11 ≠ 28 by decide), fz_ne A (show 21 ≠ 28 by decide), fz_ne A (show 3 ≠ 28 by decide), fz_ne A (show 4 ≠ 28 by decide), fz_ne A (show 5 ≠ 28 by decide), fz_ne A (show 6 ≠ 28 by decide), fz_ne A (show 7 ≠ 28 by decide), fz_ne A (show 8 ≠ 28 by decide)]
            rfl
          rw [hL] at W1
          have X1 : CR E ad (upd (upd (upd F 0 0) 26 w) 27 g) (fz A 80) R (nset z 2 0) N f n m := by
            unfold CR
            rw [fz_ne A (show 14 ≠ 28 by decide), fz_ne A (show 25 ≠ 28 by decide), fz_ne A (show 11 ≠ 28 by decide), fz_ne A (show 21 ≠ 28 by decide), fz_ne A (show 22 ≠ 28 by decide), fz_ne A (show 5 ≠ 28 by decide), fz_ne A (show 6 ≠ 28 by decide)]
            exact ⟨X.1, X.2.1, X.2.2.1, fun q hq => ⟨(X.2.2.2.1 q hq).1.trans (rlow_c n (fun i _ => ⟨by rw [fz_ne A (by decide)], by rw [fz_ne A (by decide)]⟩)), (X.2.2.2.1 q hq).2.trans (rhigh_c n (fun i _ => ⟨by rw [fz_ne A (by decide)], by rw [fz_ne A (by decide)]⟩))⟩, X.2.2.2.2.1, X.2.2.2.2.2.1, X.2.2.2.2.2.2.1, X.2.2.2.2.2.2.2.1, X.2.2.2.2.2.2.2.2.1, X.2.2.2.2.2.2.2.2.2.1, X.2.2.2.2.2.2.2.2.2.2.1, ⟨w9, g9, ew, eg, hw1, by omega, hg1, by omega, Or.inl rfl, fun q => absurd rfl q⟩, X.2.2.2.2.2.2.2.2.2.2.2.2.1, X.2.2.2.2.2.2.2.2.2.2.2.2.2⟩
          exact k2 (fun q => q.elim (fun q => q.elim zc2 zc8) (fun q => q.elim zc13 (fun y => Int32.not_le.mpr y zc19))) _ ⟨ad, R, nset z 2 0, N, f, O, W1, X1, rfl, rfl, rfl⟩
        · --f19
          refine g_throw (x := "java/lang/IllegalArgumentException") (text := "a rough is 1 to 10 wide and 1 to 8 high") (names := ["java/lang/RuntimeException", "java/lang/Exception"]) (ik := 57) (is := 243) (ic := 61) (key := 217) C (by rw [hK]; exact hl9) htab dX10_rough_22 rfl dX10_rough_25 rfl dX10_rough_26 rfl dX10_rough_28 rfl dX10_rough_31 (by decide +kernel) (by decide +kernel) w_422 w_50 (List.mem_of_getElem? (i := 28) rfl) (hat_IAE w_466) (hgood_of w_422 w_50 (hat_IAE w_466)) (roomT hR rfl) ?_
          first | exact kx (Or.inl (Or.inl zc2)) | exact kx (Or.inl (Or.inr (Int32.not_le.mp zc8))) | exact kx (Or.inl (Or.inr zc8)) | exact kx (Or.inr (Or.inl zc13)) | exact kx (Or.inr (Or.inr (Int32.not_le.mp zc19)))
theorem dX10_flaw_0 : decode cX10_flaw 0 = .ok (.aload_n 0, 1) := by decide +kernel
theorem dX10_flaw_1 : decode cX10_flaw 1 = .ok (.getfield 33, 3) := by decide +kernel
theorem dX10_flaw_4 : decode cX10_flaw 4 = .ok (.iload_n 1, 1) := by decide +kernel
theorem dX10_flaw_5 : decode cX10_flaw 5 = .ok (.iload_n 2, 1) := by decide +kernel
theorem dX10_flaw_6 : decode cX10_flaw 6 = .ok (.invokevirtual 249, 3) := by decide +kernel
theorem dX10_flaw_9 : decode cX10_flaw 9 = .ok (.ifCond .ne 13, 3) := by decide +kernel
theorem dX10_flaw_12 : decode cX10_flaw 12 = .ok (.new 201, 3) := by decide +kernel
theorem dX10_flaw_15 : decode cX10_flaw 15 = .ok (.dup, 1) := by decide +kernel
theorem dX10_flaw_16 : decode cX10_flaw 16 = .ok (.ldc 252, 2) := by decide +kernel
theorem dX10_flaw_18 : decode cX10_flaw 18 = .ok (.invokespecial 205, 3) := by decide +kernel
theorem dX10_flaw_21 : decode cX10_flaw 21 = .ok (.athrow, 1) := by decide +kernel
theorem dX10_flaw_22 : decode cX10_flaw 22 = .ok (.aload_n 0, 1) := by decide +kernel
theorem dX10_flaw_23 : decode cX10_flaw 23 = .ok (.getfield 33, 3) := by decide +kernel
theorem dX10_flaw_26 : decode cX10_flaw 26 = .ok (.iload_n 1, 1) := by decide +kernel
theorem dX10_flaw_27 : decode cX10_flaw 27 = .ok (.iload_n 2, 1) := by decide +kernel
theorem dX10_flaw_28 : decode cX10_flaw 28 = .ok (.iload_n 3, 1) := by decide +kernel
theorem dX10_flaw_29 : decode cX10_flaw 29 = .ok (.invokevirtual 254, 3) := by decide +kernel
theorem dX10_flaw_32 : decode cX10_flaw 32 = .ok (.ireturn, 1) := by decide +kernel
set_option maxHeartbeats 2000000 in
set_option maxRecDepth 20000 in
theorem cw_flaw {l : Launch} {E : Ev} {P : Value → AH → Prop} {PX : String → AH → Prop}  {x o ou n m : Nat} {F : Nat → Int32} {A : Nat → Nat → Int32} {Fm : Nat → Int32} {Am : Nat → Nat → Int32} {h : AH} (I9 : WI E x o ou F A n m Fm Am h) {a b v9 : Int32} (hv : v9 = 0 ∨ v9 = 1) (hl9 : l.stackTraces = false) (kx : ((a < 0 ∨ F 26 - 1 < a) ∨ (b < 0 ∨ F 27 - 1 < b)) → PX "java/lang/IndexOutOfBoundsException" h) (k2 : ∀ W H, F 26 = nI W → F 27 = nI H → W ≤ 10 → H ≤ 8 → ∀ i j, i < W → j < H → a = nI i → b = nI j → A 28 (10 * j + i) = v9 → ∀ h1, WI E x o ou (upd F 0 0) (aset A 28 (10 * j + i) v9) n m Fm Am h1 → P (.int 0) h1) (k3 : ∀ W H, F 26 = nI W → F 27 = nI H → W ≤ 10 → H ≤ 8 → ∀ i j, i < W → j < H → a = nI i → b = nI j → ¬ A 28 (10 * j + i) = v9 → ∀ h1, WI E x o ou (upd F 0 0) (aset A 28 (10 * j + i) v9) n m Fm Am h1 → P (.int 1) h1) : Mx l E yX10_flaw cX10_flaw 4 (some .boolean) 6 90 4 24 [.ref x, .int a, .int b, .int v9] (h) P PX := by
  refine Mx.of (by decide) (Nat.le_of_ble_eq_true rfl) ?_
  intro K hK hR htab C
  obtain ⟨ad, R, z, N, f, O, W, X, rfl, rfl, rfl⟩ := I9
  have hx : h (ad 0 0) = some (.inr (10, [.ref (ad 1 0), .ref (ad 3 0), .ref (ad 10 0), .ref (ad 20 0), .int (F 19)])) := W.at 0 0 rfl
  have hgm : h (ad 20 0) = some (.inr (7, [.ref (ad 21 0), .ref (ad 22 0), .ref (ad 23 0), .ref (ad 24 0), .int (F 26), .int (F 27), .int (z 2)])) := W.at 20 0 rfl
  have hfl : h (ad 21 0) = some (.inl (E.2.2 2, 80, .inl (A 28))) := W.at 21 0 rfl
  refine g_aload_n (n := 1) C dX10_flaw_0 rfl rfl ?_
  refine g_get (n := 4) (T := TX10) C 3 dX10_flaw_1 rfl hx rfl rfl (by decide) inX10 w_237 rfl ?_
  refine g_iload_n (n := 5) C dX10_flaw_4 rfl rfl ?_
  refine g_iload_n (n := 6) C dX10_flaw_5 rfl rfl ?_
  refine g_callV (n := 9) (As := [.int _, .int _]) C dX10_flaw_6 rfl mw_X7_hasCell w_1085 (g_recv C hgm rfl) rfl rfl (room hR rfl) (cc_hasCell hgm (fun za6 zb6 zd6 ze6 => ?_) (fun zf6 => ?_))
  · --k6.0
    refine g_if_ne (n := 12) (t := 22) C dX10_flaw_9 rfl (by decide) (fun zc9 => ?_) (fun zc9 => ?_)
    rotate_left
    · exact absurd zc9 (by decide)
    obtain ⟨wd9, ht9, hw, hh, hw1, hw10, hh1, hh8, -, -⟩ := X.2.2.2.2.2.2.2.2.2.2.2.1
    obtain ⟨i, hi, ei⟩ := ix_of (x := a) (m := F 26) (n := wd9) za6 (by rw [hw]; exact fun y => (i_lim (by omega)).mp y (by rw [← hw]; exact zb6)) hw (by omega)
    obtain ⟨j, hj, ej⟩ := ix_of (x := b) (m := F 27) (n := ht9) zd6 (by rw [hh]; exact fun y => (i_lim (by omega)).mp y (by rw [← hh]; exact ze6)) hh (by omega)
    subst ei
    subst ej
    refine g_aload_n (n := 23) C dX10_flaw_22 rfl rfl ?_
    refine g_get (n := 26) (T := TX10) C 3 dX10_flaw_23 rfl hx rfl rfl (by decide) inX10 w_237 rfl ?_
    refine g_iload_n (n := 27) C dX10_flaw_26 rfl rfl ?_
    refine g_iload_n (n := 28) C dX10_flaw_27 rfl rfl ?_
    refine g_iload_n (n := 29) C dX10_flaw_28 rfl rfl ?_
    refine g_callV (n := 32) (As := [.int _, .int _, .int _]) C dX10_flaw_29 rfl mw_X7_setFlaw w_1090 (g_recv C hgm rfl) rfl rfl (room hR rfl) (cc_setFlaw hgm hfl (W.ne (c := 20) (i := 0) (d := 21) (j := 0) rfl rfl (fun q _ => absurd q (by decide))) (by omega) (by omega) hv (fun za29 => ?_) (fun zb29 => ?_))
    · --k29.0
      refine g_x ?_
      refine g_zret C dX10_flaw_32 (by decide) (by decide) (by rfl) ?_
      have hsame : aset A 28 (10 * j + i) v9 = A := by
        funext a b
        unfold aset
        by_cases c1 : a = 28
        · by_cases c2 : b = 10 * j + i
          · rw [if_pos c1, if_pos c2, c1, c2]; exact za29.symm
          · rw [if_pos c1, if_neg c2]
        · rw [if_neg c1]
      refine k2 wd9 ht9 hw hh hw10 hh8 i j hi hj rfl rfl za29 h ?_
      rw [hsame]
      exact ⟨ad, R, z, N, f, O, (W).cast rfl, ⟨X.1, X.2.1, X.2.2.1, X.2.2.2.1, X.2.2.2.2.1, X.2.2.2.2.2.1, X.2.2.2.2.2.2.1, X.2.2.2.2.2.2.2.1, X.2.2.2.2.2.2.2.2.1, X.2.2.2.2.2.2.2.2.2.1, X.2.2.2.2.2.2.2.2.2.2.1, X.2.2.2.2.2.2.2.2.2.2.2.1, X.2.2.2.2.2.2.2.2.2.2.2.2.1, X.2.2.2.2.2.2.2.2.2.2.2.2.2⟩, rfl, rfl, rfl⟩
    · --k29.1
      refine g_x ?_
      refine g_zret C dX10_flaw_32 (by decide) (by decide) (by rfl) ?_
      rw [LW_cons, LW_cons, LW_nil]
      dsimp only
      refine k3 wd9 ht9 hw hh hw10 hh8 i j hi hj rfl rfl zb29 _ ⟨ad, R, nset z 2 0, N, f, O, (((W.one 21 (.inl (E.2.2 2, 80, .inl (upd (A 28) (10 * j + i) v9))) rfl).one 20 (.inr (7, [.ref (ad 21 0), .ref (ad 22 0), .ref (ad 23 0), .ref (ad 24 0), .int (F 26), .int (F 27), .int 0])) rfl)).cast (by rw [← upd_aset]; rfl), ⟨X.1, X.2.1, X.2.2.1, fun q hq => ⟨(X.2.2.2.1 q hq).1.trans (rlow_c n (fun i _ => ⟨rfl, rfl⟩)), (X.2.2.2.1 q hq).2.trans (rhigh_c n (fun i _ => ⟨rfl, rfl⟩))⟩, X.2.2.2.2.1, X.2.2.2.2.2.1, X.2.2.2.2.2.2.1, X.2.2.2.2.2.2.2.1, X.2.2.2.2.2.2.2.2.1, X.2.2.2.2.2.2.2.2.2.1, X.2.2.2.2.2.2.2.2.2.2.1, ⟨wd9, ht9, hw, hh, hw1, hw10, hh1, hh8, Or.inl rfl, fun q => absurd rfl q⟩, X.2.2.2.2.2.2.2.2.2.2.2.2.1, X.2.2.2.2.2.2.2.2.2.2.2.2.2⟩, rfl, rfl, rfl⟩
  · --k6.1
    refine g_if_ne (n := 12) (t := 22) C dX10_flaw_9 rfl (by decide) (fun zc9 => ?_) (fun zc9 => ?_)
    · exact absurd zc9 (by decide)
    refine g_throw (x := "java/lang/IndexOutOfBoundsException") (text := "the rough has no such cell") (names := ["java/lang/RuntimeException", "java/lang/Exception"]) (ik := 201) (is := 252) (ic := 205) (key := 218) C (by rw [hK]; exact hl9) htab dX10_flaw_12 rfl dX10_flaw_15 rfl dX10_flaw_16 rfl dX10_flaw_18 rfl dX10_flaw_21 (by decide +kernel) (by decide +kernel) w_707 w_58 (List.mem_of_getElem? (i := 29) rfl) (hat_IOOB w_717) (hgood_of w_707 w_58 (hat_IOOB w_717)) (roomT hR rfl) ?_
    obtain ⟨wd9, ht9, hw, hh, hw1, hw10, hh1, hh8, -, -⟩ := X.2.2.2.2.2.2.2.2.2.2.2.1
    refine kx ?_
    rw [hw, hh] at zf6 ⊢
    exact zf6.imp (fun q => q.imp id (fun y => (i_lim (by omega)).mpr (Int32.not_lt.mpr y))) (fun q => q.imp id (fun y => (i_lim (by omega)).mpr (Int32.not_lt.mpr y)))
