theorem hset_none {h : AH} {a b : Nat} {e : va_E} (hb : hset h a e b = none) : b ≠ a ∧ h b = none := by
  unfold hset at hb
  by_cases q : b = a
  · rw [if_pos q] at hb; cases hb
  · rw [if_neg q] at hb; exact ⟨q, hb⟩
theorem hset_non {h : AH} {a b : Nat} {e : va_E} (h1 : b ≠ a) (h2 : h b = none) : hset h a e b = none := (hset_ne h e h1).trans h2
/-- what nobody refers to any more -/
theorem Wd.gar {h : AH} {ad : Nat → Nat → Nat} {V : Nat → Nat → Option va_E} (W : Wd h ad V) {q : Nat} (e : va_E) (hq : h q = none) : Wd (hset h q e) ad V :=
  ⟨fun c i e' he => (hset_ne _ _ (fun z => by have := W.1 c i e' he; rw [z, hq] at this; cases this)).trans (W.1 c i e' he), W.2⟩
theorem dX10_law_0 : decode cX10_law 0 = .ok (.aload_n 0, 1) := by decide +kernel
theorem dX10_law_1 : decode cX10_law 1 = .ok (.getfield 19, 3) := by decide +kernel
theorem dX10_law_4 : decode cX10_law 4 = .ok (.invokevirtual 67, 3) := by decide +kernel
theorem dX10_law_7 : decode cX10_law 7 = .ok (.invokevirtual 71, 3) := by decide +kernel
theorem dX10_law_10 : decode cX10_law 10 = .ok (.astore_n 1, 1) := by decide +kernel
theorem dX10_law_11 : decode cX10_law 11 = .ok (.aload_n 0, 1) := by decide +kernel
theorem dX10_law_12 : decode cX10_law 12 = .ok (.aload_n 1, 1) := by decide +kernel
theorem dX10_law_13 : decode cX10_law 13 = .ok (.invokevirtual 76, 3) := by decide +kernel
theorem dX10_law_16 : decode cX10_law 16 = .ok (.istore_n 2, 1) := by decide +kernel
theorem dX10_law_17 : decode cX10_law 17 = .ok (.aload_n 0, 1) := by decide +kernel
theorem dX10_law_18 : decode cX10_law 18 = .ok (.getfield 37, 3) := by decide +kernel
theorem dX10_law_21 : decode cX10_law 21 = .ok (.iconst (-1), 1) := by decide +kernel
theorem dX10_law_22 : decode cX10_law 22 = .ok (.if_icmp .eq 13, 3) := by decide +kernel
theorem dX10_law_25 : decode cX10_law 25 = .ok (.new 57, 3) := by decide +kernel
theorem dX10_law_28 : decode cX10_law 28 = .ok (.dup, 1) := by decide +kernel
theorem dX10_law_29 : decode cX10_law 29 = .ok (.ldc 80, 2) := by decide +kernel
theorem dX10_law_31 : decode cX10_law 31 = .ok (.invokespecial 61, 3) := by decide +kernel
theorem dX10_law_34 : decode cX10_law 34 = .ok (.athrow, 1) := by decide +kernel
theorem dX10_law_35 : decode cX10_law 35 = .ok (.aload_n 0, 1) := by decide +kernel
theorem dX10_law_36 : decode cX10_law 36 = .ok (.getfield 19, 3) := by decide +kernel
theorem dX10_law_39 : decode cX10_law 39 = .ok (.aload_n 1, 1) := by decide +kernel
theorem dX10_law_40 : decode cX10_law 40 = .ok (.invokevirtual 82, 3) := by decide +kernel
theorem dX10_law_43 : decode cX10_law 43 = .ok (.iload_n 2, 1) := by decide +kernel
theorem dX10_law_44 : decode cX10_law 44 = .ok (.ireturn, 1) := by decide +kernel
set_option maxHeartbeats 4000000 in
set_option maxRecDepth 20000 in
theorem cw_law {l : Launch} {E : Ev} {P : Value → AH → Prop} {PX : String → AH → Prop}  {x o ou n m : Nat} {F : Nat → Int32} {A : Nat → Nat → Int32} {Fm : Nat → Int32} {Am : Nat → Nat → Int32} {h : AH} (I9 : WI E x o ou F A n m Fm Am h)  (hl9 : l.stackTraces = false) (kx : ∀ e, F 15 = nI e → e ≤ 400 → (rlawS A e).1 < 0 → ∀ h1, WI E x o ou (upd (upd (pF (rG (upd F 0 0)) (rlawS A e).2.1 (rlawS A e).2.2.1) 19 (nI (rlawS A e).2.2.1)) 0 1) (rlawS A e).2.2.2 n m Fm Am h1 → PX "java/lang/IllegalArgumentException" h1) (k2 : ∀ e, F 15 = nI e → e ≤ 400 → ¬ (rlawS A e).1 < 0 → ∀ h1, WI E x o ou (upd (pF (rG (upd F 0 0)) (rlawS A e).2.1 (rlawS A e).2.2.1) 19 (-1)) (rlw (rlawS A e).2.2.2) n m Fm Am h1 → P (.int (rlawS A e).1) h1) : Mx l E yX10_law cX10_law 3 (some .int) 9 195 6 40 [.ref x] (h) P PX := by
  refine Mx.of (by decide) (Nat.le_of_ble_eq_true rfl) ?_
  intro K hK hR htab C
  obtain ⟨ad, R, z, N, f, O, W, X, rfl, rfl, rfl⟩ := I9
  have hx : h (ad 0 0) = some (.inr (10, [.ref (ad 1 0), .ref (ad 3 0), .ref (ad 10 0), .ref (ad 20 0), .int (F 19)])) := W.at 0 0 rfl
  have ht : h (ad 1 0) = some (.inr (9, [.ref (ad 2 0), .int (F 15)])) := W.at 1 0 rfl
  have hb : h (ad 2 0) = some (.inl (E.2.2 0, 400, .inl (A 14))) := W.at 2 0 rfl
  have hk : h (ad 3 0) = some (.inr (2, [.ref (ad 4 0), .ref (ad 6 0), .ref (ad 7 0), .ref (ad 8 0), .int (F 2), .int (F 1)])) := W.at 3 0 rfl
  have hlw : h (ad 8 0) = some (.inr (3, [.int (A 10 0), .int (A 10 1), .int (A 10 2)])) := W.at 8 0 rfl
  have hmk : h (ad 10 0) = some (.inr (4, [.ref (ad 11 0), .ref (ad 13 0), .ref (ad 14 0), .int (F 24), .int (z 3)])) := W.at 10 0 rfl
  obtain ⟨e9, h15, he9⟩ := X.2.1
  rw [h15] at ht
  refine g_aload_n (n := 1) C dX10_law_0 rfl rfl ?_
  refine g_get (n := 4) (T := TX10) C 1 dX10_law_1 rfl hx rfl rfl (by decide) inX10 w_235 rfl ?_
  refine g_callV (n := 7) (As := []) C dX10_law_4 rfl mw_X2_lawNow w_509 (g_recv C hk rfl) rfl rfl (room hR rfl) (cc_glaw hk ?_)
  refine g_callV (n := 10) (As := []) C dX10_law_7 rfl mw_X3_copy w_513 (g_recv C hlw rfl) rfl rfl (room hR rfl) (cc_lawCopy hlw (fun q9 hq9 => ?_))
  rw [LW_one]
  have hne : ∀ {b : Nat} {e : va_E}, h b = some e → b ≠ q9 := fun hb z => by rw [z, hq9] at hb; cases hb
  have hx1 : (hset h q9 (lawE (A 10 0, A 10 1, A 10 2))) (ad 0 0) = some (.inr (10, [.ref (ad 1 0), .ref (ad 3 0), .ref (ad 10 0), .ref (ad 20 0), .int (F 19)])) := (hset_ne _ _ (hne hx)).trans hx
  have ht1 : (hset h q9 (lawE (A 10 0, A 10 1, A 10 2))) (ad 1 0) = some (.inr (9, [.ref (ad 2 0), .int (nI e9)])) := (hset_ne _ _ (hne ht)).trans ht
  have hb1 : (hset h q9 (lawE (A 10 0, A 10 1, A 10 2))) (ad 2 0) = some (.inl (E.2.2 0, 400, .inl (A 14))) := (hset_ne _ _ (hne hb)).trans hb
  have hk1 : (hset h q9 (lawE (A 10 0, A 10 1, A 10 2))) (ad 3 0) = some (.inr (2, [.ref (ad 4 0), .ref (ad 6 0), .ref (ad 7 0), .ref (ad 8 0), .int (F 2), .int (F 1)])) := (hset_ne _ _ (hne hk)).trans hk
  refine g_astore_n (n := 11) C dX10_law_10 rfl (by decide) ?_
  refine g_aload_n (n := 12) C dX10_law_11 rfl rfl ?_
  refine g_aload_n (n := 13) C dX10_law_12 rfl rfl ?_
  refine g_callV (n := 16) (As := [.ref _]) C dX10_law_13 rfl mw_X10_readTape w_519 (g_recv C hx1 rfl) rfl rfl (room hR rfl) (cw_rt_law (n := e9) (x0 := (A 10 0, A 10 1, A 10 2)) hx1 ht1 hb1 he9 (hset_same _ _ _) (fun r9 hr9 => ?_))
  have hx2 : (hset (hset (hset (hset h q9 (lawE (A 10 0, A 10 1, A 10 2))) q9 (lawE (crd (cterm (cT (A 14)) e9) (fun _ => True) (cT (A 14)) e9 400 (cbl (A 14) e9 0) (A 10 0, A 10 1, A 10 2) 1).2.2.2)) (ad 0 0) (.inr (10, [.ref (ad 1 0), .ref (ad 3 0), .ref (ad 10 0), .ref (ad 20 0), .int (crd (cterm (cT (A 14)) e9) (fun _ => True) (cT (A 14)) e9 400 (cbl (A 14) e9 0) (A 10 0, A 10 1, A 10 2) 1).2.2.1]))) (ad 1 0) (.inr (9, [.ref (ad 2 0), .int 0]))) (ad 0 0) = some (.inr (10, [.ref (ad 1 0), .ref (ad 3 0), .ref (ad 10 0), .ref (ad 20 0), .int (crd (cterm (cT (A 14)) e9) (fun _ => True) (cT (A 14)) e9 400 (cbl (A 14) e9 0) (A 10 0, A 10 1, A 10 2) 1).2.2.1])) := (hset_ne _ _ (W.ne (c := 0) (i := 0) (d := 1) (j := 0) rfl rfl (fun q _ => absurd q (by decide)))).trans (hset_same _ _ _)
  have hxr : ad 0 0 ∉ [r9] := nm1 hr9 hx1
  have hk2 : (hset (hset (hset (hset h q9 (lawE (A 10 0, A 10 1, A 10 2))) q9 (lawE (crd (cterm (cT (A 14)) e9) (fun _ => True) (cT (A 14)) e9 400 (cbl (A 14) e9 0) (A 10 0, A 10 1, A 10 2) 1).2.2.2)) (ad 0 0) (.inr (10, [.ref (ad 1 0), .ref (ad 3 0), .ref (ad 10 0), .ref (ad 20 0), .int (crd (cterm (cT (A 14)) e9) (fun _ => True) (cT (A 14)) e9 400 (cbl (A 14) e9 0) (A 10 0, A 10 1, A 10 2) 1).2.2.1]))) (ad 1 0) (.inr (9, [.ref (ad 2 0), .int 0]))) (ad 3 0) = some (.inr (2, [.ref (ad 4 0), .ref (ad 6 0), .ref (ad 7 0), .ref (ad 8 0), .int (F 2), .int (F 1)])) := (hset_ne _ _ (W.ne (c := 3) (i := 0) (d := 1) (j := 0) rfl rfl (fun q _ => absurd q (by decide)))).trans ((hset_ne _ _ (W.ne (c := 3) (i := 0) (d := 0) (j := 0) rfl rfl (fun q _ => absurd q (by decide)))).trans ((hset_ne _ _ (hne hk)).trans hk1))
  have hkr : ad 3 0 ∉ [r9] := nm1 hr9 hk1
  obtain ⟨p0, p1, p2⟩ := parse_law (A := A) X.2.2.1 he9
  have hrt : r9 ≠ ad 1 0 := fun z => by rw [z, ht1] at hr9; cases hr9
  have hrx : r9 ≠ ad 0 0 := fun z => by rw [z, hx1] at hr9; cases hr9
  obtain ⟨hrq, hrh⟩ := hset_none hr9
  refine g_istore_n (n := 17) C dX10_law_16 rfl (by decide) ?_
  refine g_aload_n (n := 18) C dX10_law_17 rfl rfl ?_
  refine b_get (n := 21) (T := TX10) 4 C dX10_law_18 rfl hx2 hxr rfl rfl (by decide) inX10 w_238 rfl ?_
  refine g_iconst (n := 22) (v := (-1)) C dX10_law_21 rfl (by decide) ?_
  refine g_icmp_eq (n := 25) (t := 35) C dX10_law_22 rfl (by decide) (fun zc22 => ?_) (fun zc22 => ?_)
  · --t22
    refine g_aload_n (n := 36) C dX10_law_35 rfl rfl ?_
    refine b_get (n := 39) (T := TX10) 1 C dX10_law_36 rfl hx2 hxr rfl rfl (by decide) inX10 w_235 rfl ?_
    refine g_aload_n (n := 40) C dX10_law_39 rfl rfl ?_
    refine g_callV (n := 43) (As := [.ref _]) C dX10_law_40 rfl mw_X2_setLaw w_677 (g_recv C (lnb hk2 (by exact hkr)) rfl) rfl rfl (room hR rfl) (cc_gsetLaw (lnb hk2 (by exact hkr)) ?_)
    refine g_iload_n (n := 44) C dX10_law_43 rfl rfl ?_
    refine g_x ?_
    refine g_iret C dX10_law_44 (by decide) (by decide) ?_
    have hpos : ¬ (rlawS A e9).1 < 0 := fun q => (p1 q).1 zc22
    obtain ⟨q1, q2, q3⟩ := p2 hpos
    rw [LW_one]
    rw [hset_hset]
    rw [zc22, q2]
    have hrow : ∀ k, k ≠ 10 → k ≠ 12 → rlw (rlawS A e9).2.2.2 k = A k := fun k h1 h2 => by
      unfold rlw
      rw [aset_row _ _ _ h1, aset_row _ _ _ h1, aset_row _ _ _ h1]
      exact p0 k h2
    have h10 : lawE (crd (cterm (cT (A 14)) e9) (fun _ => True) (cT (A 14)) e9 400 (cbl (A 14) e9 0) (A 10 0, A 10 1, A 10 2) 1).2.2.2 = lawE (rlw (rlawS A e9).2.2.2 10 0, rlw (rlawS A e9).2.2.2 10 1, rlw (rlawS A e9).2.2.2 10 2) := by
      rw [q3]
      simp [aset]
    rw [h10]
    have Wz := ((((W.onenew 8 (lawE (rlw (rlawS A e9).2.2.2 10 0, rlw (rlawS A e9).2.2.2 10 1, rlw (rlawS A e9).2.2.2 10 2)) hq9 rfl).one 0 (.inr (10, [.ref (ad 1 0), .ref (ad 3 0), .ref (ad 10 0), .ref (ad 20 0), .int (-1)])) rfl).one 1 (.inr (9, [.ref (ad 2 0), .int 0])) rfl).gar (q := r9) (.inr (6, [.ref (ad 1 0), .int (nI (crd (cterm (cT (A 14)) e9) (fun _ => True) (cT (A 14)) e9 400 (cbl (A 14) e9 0) (A 10 0, A 10 1, A 10 2) 1).2.1), .int (-1)])) (hset_non hrt (hset_non hrx (hset_non hrq hrh)))).one 3 (.inr (2, [.ref (ad 4 0), .ref (ad 6 0), .ref (ad 7 0), .ref q9, .int (F 2), .int (F 1)])) rfl
    have hk := k2 e9 h15 he9 hpos
    generalize hAq : rlw (rlawS A e9).2.2.2 = Aq at hrow hk Wz
    have hL : ((((wL E ad F A R z N f n m Fm Am O).set 8 (one9 (lawE (Aq 10 0, Aq 10 1, Aq 10 2)))).set 0 (one9 (.inr (10, [.ref (ad 1 0), .ref (ad 3 0), .ref (ad 10 0), .ref (ad 20 0), .int (-1)])))).set 1 (one9 (.inr (9, [.ref (ad 2 0), .int 0])))).set 3 (one9 (.inr (2, [.ref (ad 4 0), .ref (ad 6 0), .ref (ad 7 0), .ref q9, .int (F 2), .int (F 1)]))) = wL E (adset ad 8 0 q9) (upd (pF (rG (upd F 0 0)) (rlawS A e9).2.1 (rlawS A e9).2.2.1) 19 (-1)) Aq R z N f n m Fm Am O := by
      unfold wL
      rw [hrow 14 (by decide) (by decide), hrow 3 (by decide) (by decide), hrow 4 (by decide) (by decide), hrow 7 (by decide) (by decide), hrow 8 (by decide) (by decide), hrow 5 (by decide) (by decide), hrow 6 (by decide) (by decide), hrow 11 (by decide) (by decide), hrow 21 (by decide) (by decide), hrow 28 (by decide) (by decide)]
      rfl
    rw [hL] at Wz
    have X1 : CR E (adset ad 8 0 q9) (upd (pF (rG (upd F 0 0)) (rlawS A e9).2.1 (rlawS A e9).2.2.1) 19 (-1)) Aq R z N f n m := by
      unfold CR
      rw [hrow 14 (by decide) (by decide), hrow 5 (by decide) (by decide), hrow 6 (by decide) (by decide), hrow 25 (by decide) (by decide), hrow 11 (by decide) (by decide), hrow 21 (by decide) (by decide), hrow 22 (by decide) (by decide), hrow 28 (by decide) (by decide)]
      exact ⟨X.1, ⟨0, nI_0.symm, by decide⟩, X.2.2.1, fun q hq => ⟨(X.2.2.2.1 q hq).1.trans (rlow_c n (fun a _ => ⟨by rw [hrow 5 (by decide) (by decide)], by rw [hrow 3 (by decide) (by decide)]⟩)), (X.2.2.2.1 q hq).2.trans (rhigh_c n (fun a _ => ⟨by rw [hrow 5 (by decide) (by decide)], by rw [hrow 3 (by decide) (by decide)]⟩))⟩, X.2.2.2.2.1, X.2.2.2.2.2.1, X.2.2.2.2.2.2.1, X.2.2.2.2.2.2.2.1, X.2.2.2.2.2.2.2.2.1, X.2.2.2.2.2.2.2.2.2.1, X.2.2.2.2.2.2.2.2.2.2.1, X.2.2.2.2.2.2.2.2.2.2.2.1, X.2.2.2.2.2.2.2.2.2.2.2.2.1, X.2.2.2.2.2.2.2.2.2.2.2.2.2⟩
    exact hk _ ⟨adset ad 8 0 q9, R, z, N, f, O, Wz, X1, rfl, rfl, rfl⟩
  · --f22
    refine g_throw (x := "java/lang/IllegalArgumentException") (text := "the text of the law is wrong") (names := ["java/lang/RuntimeException", "java/lang/Exception"]) (ik := 57) (is := 80) (ic := 61) (key := 201) C (by rw [hK]; exact hl9) htab dX10_law_25 rfl dX10_law_28 rfl dX10_law_29 rfl dX10_law_31 rfl dX10_law_34 (by decide +kernel) (by decide +kernel) w_422 w_50 (List.mem_of_getElem? (i := 12) rfl) (hat_IAE w_466) (hgood_of w_422 w_50 (hat_IAE w_466)) (roomT hR rfl) ?_
    have hneg : (rlawS A e9).1 < 0 := by
      by_cases q : (rlawS A e9).1 < 0
      · exact q
      · exact absurd (p2 q).1 zc22
    have hff := (p1 hneg).2
    rw [LW_one]
    rw [hset_hset]
    rw [hff]
    have hrow : ∀ k, k ≠ 12 → (rlawS A e9).2.2.2 k = A k := p0
    have Wz := (((W.gar (lawE (crd (cterm (cT (A 14)) e9) (fun _ => True) (cT (A 14)) e9 400 (cbl (A 14) e9 0) (A 10 0, A 10 1, A 10 2) 1).2.2.2) hq9).one 0 (.inr (10, [.ref (ad 1 0), .ref (ad 3 0), .ref (ad 10 0), .ref (ad 20 0), .int (nI (rlawS A e9).2.2.1)])) rfl).one 1 (.inr (9, [.ref (ad 2 0), .int 0])) rfl).gar (q := r9) (.inr (6, [.ref (ad 1 0), .int (nI (crd (cterm (cT (A 14)) e9) (fun _ => True) (cT (A 14)) e9 400 (cbl (A 14) e9 0) (A 10 0, A 10 1, A 10 2) 1).2.1), .int (nI (rlawS A e9).2.2.1)])) (hset_non hrt (hset_non hrx (hset_non hrq hrh)))
    have hk := kx e9 h15 he9 hneg
    generalize hAq : (rlawS A e9).2.2.2 = Aq at hrow hk
    have hL : ((wL E ad F A R z N f n m Fm Am O).set 0 (one9 (.inr (10, [.ref (ad 1 0), .ref (ad 3 0), .ref (ad 10 0), .ref (ad 20 0), .int (nI (rlawS A e9).2.2.1)])))).set 1 (one9 (.inr (9, [.ref (ad 2 0), .int 0]))) = wL E ad (upd (upd (pF (rG (upd F 0 0)) (rlawS A e9).2.1 (rlawS A e9).2.2.1) 19 (nI (rlawS A e9).2.2.1)) 0 1) Aq R z N f n m Fm Am O := by
      unfold wL
      rw [hrow 14 (by decide), hrow 10 (by decide), hrow 3 (by decide), hrow 4 (by decide), hrow 7 (by decide), hrow 8 (by decide), hrow 5 (by decide), hrow 6 (by decide), hrow 11 (by decide), hrow 21 (by decide), hrow 28 (by decide)]
      rfl
    rw [hL] at Wz
    have X1 : CR E ad (upd (upd (pF (rG (upd F 0 0)) (rlawS A e9).2.1 (rlawS A e9).2.2.1) 19 (nI (rlawS A e9).2.2.1)) 0 1) Aq R z N f n m := by
      unfold CR
      rw [hrow 14 (by decide), hrow 5 (by decide), hrow 6 (by decide), hrow 25 (by decide), hrow 11 (by decide), hrow 21 (by decide), hrow 22 (by decide), hrow 28 (by decide)]
      exact ⟨X.1, ⟨0, nI_0.symm, by decide⟩, X.2.2.1, fun q hq => ⟨(X.2.2.2.1 q hq).1.trans (rlow_c n (fun a _ => ⟨by rw [hrow 5 (by decide)], by rw [hrow 3 (by decide)]⟩)), (X.2.2.2.1 q hq).2.trans (rhigh_c n (fun a _ => ⟨by rw [hrow 5 (by decide)], by rw [hrow 3 (by decide)]⟩))⟩, X.2.2.2.2.1, X.2.2.2.2.2.1, X.2.2.2.2.2.2.1, X.2.2.2.2.2.2.2.1, X.2.2.2.2.2.2.2.2.1, X.2.2.2.2.2.2.2.2.2.1, X.2.2.2.2.2.2.2.2.2.2.1, X.2.2.2.2.2.2.2.2.2.2.2.1, X.2.2.2.2.2.2.2.2.2.2.2.2.1, X.2.2.2.2.2.2.2.2.2.2.2.2.2⟩
    exact hk _ ⟨ad, R, z, N, f, O, Wz, X1, rfl, rfl, rfl⟩
theorem dX10_agreement_0 : decode cX10_agreement 0 = .ok (.new 86, 3) := by decide +kernel
theorem dX10_agreement_3 : decode cX10_agreement 3 = .ok (.dup, 1) := by decide +kernel
theorem dX10_agreement_4 : decode cX10_agreement 4 = .ok (.invokespecial 88, 3) := by decide +kernel
theorem dX10_agreement_7 : decode cX10_agreement 7 = .ok (.astore_n 1, 1) := by decide +kernel
theorem dX10_agreement_8 : decode cX10_agreement 8 = .ok (.aload_n 0, 1) := by decide +kernel
theorem dX10_agreement_9 : decode cX10_agreement 9 = .ok (.aload_n 1, 1) := by decide +kernel
theorem dX10_agreement_10 : decode cX10_agreement 10 = .ok (.invokevirtual 76, 3) := by decide +kernel
theorem dX10_agreement_13 : decode cX10_agreement 13 = .ok (.istore_n 2, 1) := by decide +kernel
theorem dX10_agreement_14 : decode cX10_agreement 14 = .ok (.aload_n 0, 1) := by decide +kernel
theorem dX10_agreement_15 : decode cX10_agreement 15 = .ok (.getfield 37, 3) := by decide +kernel
theorem dX10_agreement_18 : decode cX10_agreement 18 = .ok (.iconst (-1), 1) := by decide +kernel
theorem dX10_agreement_19 : decode cX10_agreement 19 = .ok (.if_icmp .eq 13, 3) := by decide +kernel
theorem dX10_agreement_22 : decode cX10_agreement 22 = .ok (.new 57, 3) := by decide +kernel
theorem dX10_agreement_25 : decode cX10_agreement 25 = .ok (.dup, 1) := by decide +kernel
theorem dX10_agreement_26 : decode cX10_agreement 26 = .ok (.ldc 89, 2) := by decide +kernel
theorem dX10_agreement_28 : decode cX10_agreement 28 = .ok (.invokespecial 61, 3) := by decide +kernel
theorem dX10_agreement_31 : decode cX10_agreement 31 = .ok (.athrow, 1) := by decide +kernel
theorem dX10_agreement_32 : decode cX10_agreement 32 = .ok (.aload_n 0, 1) := by decide +kernel
theorem dX10_agreement_33 : decode cX10_agreement 33 = .ok (.getfield 26, 3) := by decide +kernel
theorem dX10_agreement_36 : decode cX10_agreement 36 = .ok (.aload_n 1, 1) := by decide +kernel
theorem dX10_agreement_37 : decode cX10_agreement 37 = .ok (.invokevirtual 91, 3) := by decide +kernel
theorem dX10_agreement_40 : decode cX10_agreement 40 = .ok (.iload_n 2, 1) := by decide +kernel
theorem dX10_agreement_41 : decode cX10_agreement 41 = .ok (.ireturn, 1) := by decide +kernel
set_option maxHeartbeats 4000000 in
set_option maxRecDepth 20000 in
theorem cw_agreement {l : Launch} {E : Ev} {P : Value → AH → Prop} {PX : String → AH → Prop}  {x o ou n m : Nat} {F : Nat → Int32} {A : Nat → Nat → Int32} {Fm : Nat → Int32} {Am : Nat → Nat → Int32} {h : AH} (I9 : WI E x o ou F A n m Fm Am h)  (hl9 : l.stackTraces = false) (kx : ∀ e, F 15 = nI e → e ≤ 400 → (ragrS A e).1 < 0 → ∀ h1, WI E x o ou (upd (upd (pF (rG (upd F 0 0)) (ragrS A e).2.1 (ragrS A e).2.2.1) 19 (nI (ragrS A e).2.2.1)) 0 1) (ragrS A e).2.2.2 n m Fm Am h1 → PX "java/lang/IllegalArgumentException" h1) (k2 : ∀ e, F 15 = nI e → e ≤ 400 → ¬ (ragrS A e).1 < 0 → ∀ h1, WI E x o ou (upd (upd (pF (rG (upd F 0 0)) (ragrS A e).2.1 (ragrS A e).2.2.1) 19 (-1)) 13 1) (rag (ragrS A e).2.2.2) n m Fm Am h1 → P (.int (ragrS A e).1) h1) : Mx l E yX10_agreement cX10_agreement 3 (some .int) 9 195 6 40 [.ref x] (h) P PX := by
  refine Mx.of (by decide) (Nat.le_of_ble_eq_true rfl) ?_
  intro K hK hR htab C
  obtain ⟨ad, R, z, N, f, O, W, X, rfl, rfl, rfl⟩ := I9
  have hx : h (ad 0 0) = some (.inr (10, [.ref (ad 1 0), .ref (ad 3 0), .ref (ad 10 0), .ref (ad 20 0), .int (F 19)])) := W.at 0 0 rfl
  have ht : h (ad 1 0) = some (.inr (9, [.ref (ad 2 0), .int (F 15)])) := W.at 1 0 rfl
  have hb : h (ad 2 0) = some (.inl (E.2.2 0, 400, .inl (A 14))) := W.at 2 0 rfl
  have hk : h (ad 3 0) = some (.inr (2, [.ref (ad 4 0), .ref (ad 6 0), .ref (ad 7 0), .ref (ad 8 0), .int (F 2), .int (F 1)])) := W.at 3 0 rfl
  have hlw : h (ad 8 0) = some (.inr (3, [.int (A 10 0), .int (A 10 1), .int (A 10 2)])) := W.at 8 0 rfl
  have hmk : h (ad 10 0) = some (.inr (4, [.ref (ad 11 0), .ref (ad 13 0), .ref (ad 14 0), .int (F 24), .int (z 3)])) := W.at 10 0 rfl
  obtain ⟨e9, h15, he9⟩ := X.2.1
  rw [h15] at ht
  refine g_new (n := 3) (ci := 1) (T := TX0) (fs := [.null, .int 0, .int 0]) (ty0 := tyX0) C dX10_agreement_0 rfl rfl inX0 w_688 w_174 w_44 tyX0_ok (by decide) (roomC hR rfl) (roomS hR rfl) ?_
  intro q9 hqq9 heq9
  rw [← LW_one]
  refine g_dup (n := 4) C dX10_agreement_3 rfl rfl ?_
  refine g_callIN (n := 7) (As := []) C dX10_agreement_4 rfl mw_X0_init t_689 rfl rfl (room hR rfl) (cc_agrInit (fun u9 hnu9 hfu9 => ?_))
  rw [LW_cons, LW_cons, LW_nil]
  dsimp only
  have hne : ∀ {b : Nat} {e : va_E}, h b = some e → b ≠ q9 := fun hb z => by rw [z, hqq9] at hb; cases hb
  have hneu : ∀ {b : Nat} {e : va_E}, h b = some e → b ≠ u9 := fun hb z => by rw [z, hfu9] at hb; cases hb
  have hqu : q9 ≠ u9 := fun z => hnu9 (by rw [z]; exact List.mem_cons_self)
  have hx1 : (hset (hset h u9 (agA E (0, 0, fun _ => 0))) q9 (agE u9 (0, 0, fun _ => 0))) (ad 0 0) = some (.inr (10, [.ref (ad 1 0), .ref (ad 3 0), .ref (ad 10 0), .ref (ad 20 0), .int (F 19)])) := (hset_ne _ _ (hne hx)).trans ((hset_ne _ _ (hneu hx)).trans hx)
  have ht1 : (hset (hset h u9 (agA E (0, 0, fun _ => 0))) q9 (agE u9 (0, 0, fun _ => 0))) (ad 1 0) = some (.inr (9, [.ref (ad 2 0), .int (nI e9)])) := (hset_ne _ _ (hne ht)).trans ((hset_ne _ _ (hneu ht)).trans ht)
  have hb1 : (hset (hset h u9 (agA E (0, 0, fun _ => 0))) q9 (agE u9 (0, 0, fun _ => 0))) (ad 2 0) = some (.inl (E.2.2 0, 400, .inl (A 14))) := (hset_ne _ _ (hne hb)).trans ((hset_ne _ _ (hneu hb)).trans hb)
  have hmk1 : (hset (hset h u9 (agA E (0, 0, fun _ => 0))) q9 (agE u9 (0, 0, fun _ => 0))) (ad 10 0) = some (.inr (4, [.ref (ad 11 0), .ref (ad 13 0), .ref (ad 14 0), .int (F 24), .int (z 3)])) := (hset_ne _ _ (hne hmk)).trans ((hset_ne _ _ (hneu hmk)).trans hmk)
  have hq1 : (hset (hset h u9 (agA E (0, 0, fun _ => 0))) q9 (agE u9 (0, 0, fun _ => 0))) q9 = some (agE u9 (0, 0, fun _ => 0)) := hset_same _ _ _
  have hu1 : (hset (hset h u9 (agA E (0, 0, fun _ => 0))) q9 (agE u9 (0, 0, fun _ => 0))) u9 = some (agA E (0, 0, fun _ => 0)) := (hset_ne _ _ hqu.symm).trans (hset_same _ _ _)
  refine g_astore_n (n := 8) C dX10_agreement_7 rfl (by decide) ?_
  refine g_aload_n (n := 9) C dX10_agreement_8 rfl rfl ?_
  refine g_aload_n (n := 10) C dX10_agreement_9 rfl rfl ?_
  refine g_callV (n := 13) (As := [.ref _]) C dX10_agreement_10 rfl mw_X10_readTape w_519 (g_recv C hx1 rfl) rfl rfl (room hR rfl) (cw_rt_agr (n := e9) (x0 := (0, 0, fun _ => 0)) hx1 ht1 hb1 he9 hq1 hu1 (fun r9 hr9 => ?_))
  have hx2 : (hset (hset (hset (hset (hset (hset h u9 (agA E (0, 0, fun _ => 0))) q9 (agE u9 (0, 0, fun _ => 0))) u9 (agA E (crd (cpartS (cT (A 14)) e9) (fun x => csum x.2.2 ≤ 100) (cT (A 14)) e9 400 (cbl (A 14) e9 0) (0, 0, fun _ => 0) 1).2.2.2)) q9 (agE u9 (crd (cpartS (cT (A 14)) e9) (fun x => csum x.2.2 ≤ 100) (cT (A 14)) e9 400 (cbl (A 14) e9 0) (0, 0, fun _ => 0) 1).2.2.2)) (ad 0 0) (.inr (10, [.ref (ad 1 0), .ref (ad 3 0), .ref (ad 10 0), .ref (ad 20 0), .int (crd (cpartS (cT (A 14)) e9) (fun x => csum x.2.2 ≤ 100) (cT (A 14)) e9 400 (cbl (A 14) e9 0) (0, 0, fun _ => 0) 1).2.2.1]))) (ad 1 0) (.inr (9, [.ref (ad 2 0), .int 0]))) (ad 0 0) = some (.inr (10, [.ref (ad 1 0), .ref (ad 3 0), .ref (ad 10 0), .ref (ad 20 0), .int (crd (cpartS (cT (A 14)) e9) (fun x => csum x.2.2 ≤ 100) (cT (A 14)) e9 400 (cbl (A 14) e9 0) (0, 0, fun _ => 0) 1).2.2.1])) := (hset_ne _ _ (W.ne (c := 0) (i := 0) (d := 1) (j := 0) rfl rfl (fun q _ => absurd q (by decide)))).trans (hset_same _ _ _)
  have hxr : ad 0 0 ∉ [r9] := nm1 hr9 hx1
  have hk2 : (hset (hset (hset (hset (hset (hset h u9 (agA E (0, 0, fun _ => 0))) q9 (agE u9 (0, 0, fun _ => 0))) u9 (agA E (crd (cpartS (cT (A 14)) e9) (fun x => csum x.2.2 ≤ 100) (cT (A 14)) e9 400 (cbl (A 14) e9 0) (0, 0, fun _ => 0) 1).2.2.2)) q9 (agE u9 (crd (cpartS (cT (A 14)) e9) (fun x => csum x.2.2 ≤ 100) (cT (A 14)) e9 400 (cbl (A 14) e9 0) (0, 0, fun _ => 0) 1).2.2.2)) (ad 0 0) (.inr (10, [.ref (ad 1 0), .ref (ad 3 0), .ref (ad 10 0), .ref (ad 20 0), .int (crd (cpartS (cT (A 14)) e9) (fun x => csum x.2.2 ≤ 100) (cT (A 14)) e9 400 (cbl (A 14) e9 0) (0, 0, fun _ => 0) 1).2.2.1]))) (ad 1 0) (.inr (9, [.ref (ad 2 0), .int 0]))) (ad 10 0) = some (.inr (4, [.ref (ad 11 0), .ref (ad 13 0), .ref (ad 14 0), .int (F 24), .int (z 3)])) := (hset_ne _ _ (W.ne (c := 10) (i := 0) (d := 1) (j := 0) rfl rfl (fun q _ => absurd q (by decide)))).trans ((hset_ne _ _ (W.ne (c := 10) (i := 0) (d := 0) (j := 0) rfl rfl (fun q _ => absurd q (by decide)))).trans ((hset_ne _ _ (hne hmk)).trans ((hset_ne _ _ (hneu hmk)).trans hmk1)))
  have hkr : ad 10 0 ∉ [r9] := nm1 hr9 hmk1
  obtain ⟨p0, p1, p2⟩ := parse_agr (A := A) X.2.2.1 he9
  have hrt : r9 ≠ ad 1 0 := fun z => by rw [z, ht1] at hr9; cases hr9
  have hrx : r9 ≠ ad 0 0 := fun z => by rw [z, hx1] at hr9; cases hr9
  obtain ⟨hrq, hru0⟩ := hset_none hr9
  obtain ⟨hru, hrh⟩ := hset_none hru0
  refine g_istore_n (n := 14) C dX10_agreement_13 rfl (by decide) ?_
  refine g_aload_n (n := 15) C dX10_agreement_14 rfl rfl ?_
  refine b_get (n := 18) (T := TX10) 4 C dX10_agreement_15 rfl hx2 hxr rfl rfl (by decide) inX10 w_238 rfl ?_
  refine g_iconst (n := 19) (v := (-1)) C dX10_agreement_18 rfl (by decide) ?_
  refine g_icmp_eq (n := 22) (t := 32) C dX10_agreement_19 rfl (by decide) (fun zc19 => ?_) (fun zc19 => ?_)
  · --t19
    refine g_aload_n (n := 33) C dX10_agreement_32 rfl rfl ?_
    refine b_get (n := 36) (T := TX10) 2 C dX10_agreement_33 rfl hx2 hxr rfl rfl (by decide) inX10 w_236 rfl ?_
    refine g_aload_n (n := 37) C dX10_agreement_36 rfl rfl ?_
    refine g_callV (n := 40) (As := [.ref _]) C dX10_agreement_37 rfl mw_X4_setAgreement w_691 (g_recv C (lnb hk2 (by exact hkr)) rfl) rfl rfl (room hR rfl) (cc_msetA (lnb hk2 (by exact hkr)) ?_)
    refine g_iload_n (n := 41) C dX10_agreement_40 rfl rfl ?_
    refine g_x ?_
    refine g_iret C dX10_agreement_41 (by decide) (by decide) ?_
    have hpos : ¬ (ragrS A e9).1 < 0 := fun q => (p1 q).1 zc19
    obtain ⟨q1, q2, q3⟩ := p2 hpos
    rw [LW_one]
    rw [ag_hx hqu]
    rw [zc19, q2]
    obtain ⟨y1, y2, y3, y4, y5, y6⟩ := q3
    have hrow : ∀ k, k ≠ 11 → k ≠ 12 → rag (ragrS A e9).2.2.2 k = A k := fun k h1 h2 => by
      unfold rag
      rw [aset_row _ _ _ h1, aset_row _ _ _ h1, aset_row _ _ _ h1, aset_row _ _ _ h1, aset_row _ _ _ h1, aset_row _ _ _ h1, aset_row _ _ _ h1]
      exact p0 k h2
    have h11 : ∀ k, k < 7 → rag (ragrS A e9).2.2.2 11 k = (ragrS A e9).2.2.2 12 k := fun k hk => by
      match k, hk with
      | 0, _ => simp [aset]
      | 1, _ => simp [aset]
      | 2, _ => simp [aset]
      | 3, _ => simp [aset]
      | 4, _ => simp [aset]
      | 5, _ => simp [aset]
      | 6, _ => simp [aset]
    rw [← h11 0 (by decide)] at y1 y5
    rw [← h11 6 (by decide)] at y2
    have y4 : ∀ k, 1 ≤ k → k < 6 → (crd (cpartS (cT (A 14)) e9) (fun x => csum x.2.2 ≤ 100) (cT (A 14)) e9 400 (cbl (A 14) e9 0) (0, 0, fun _ => 0) 1).2.2.2.2.2 k = rag (ragrS A e9).2.2.2 11 k := fun k k1 k2 => (y4 k k1 k2).trans (h11 k (by omega)).symm
    have y6 : ∀ k, 1 ≤ k → k < 6 → 0 ≤ rag (ragrS A e9).2.2.2 11 k ∧ rag (ragrS A e9).2.2.2 11 k ≤ 100 := fun k k1 k2 => by rw [h11 k (by omega)]; exact y6 k k1 k2
    have hk := k2 e9 h15 he9 hpos
    generalize hAq : rag (ragrS A e9).2.2.2 = Aq at hrow hk y1 y2 y4 y5 y6
    generalize hY : (crd (cpartS (cT (A 14)) e9) (fun x => csum x.2.2 ≤ 100) (cT (A 14)) e9 400 (cbl (A 14) e9 0) (0, 0, fun _ => 0) 1).2.2.2 = Y9 at y1 y2 y3 y4
    have hag9 : agE u9 Y9 = .inr (1, [.ref u9, .int (Aq 11 0), .int (Aq 11 6)]) := by rw [← y1, ← y2]
    rw [hag9]
    have Wz := (((((W.onenew 15 (agA E Y9) hfu9 rfl).onenew 14 (q := q9) (.inr (1, [.ref u9, .int (Aq 11 0), .int (Aq 11 6)])) (hset_non hqu hqq9) rfl).one 0 (.inr (10, [.ref (ad 1 0), .ref (ad 3 0), .ref (ad 10 0), .ref (ad 20 0), .int (-1)])) rfl).one 1 (.inr (9, [.ref (ad 2 0), .int 0])) rfl).gar (q := r9) (.inr (6, [.ref (ad 1 0), .int (nI (crd (cpartS (cT (A 14)) e9) (fun x => csum x.2.2 ≤ 100) (cT (A 14)) e9 400 (cbl (A 14) e9 0) (0, 0, fun _ => 0) 1).2.1), .int (-1)])) (hset_non hrt (hset_non hrx (hset_non hrq (hset_non hru hrh))))).one 10 (.inr (4, [.ref (ad 11 0), .ref (ad 13 0), .ref q9, .int (F 24), .int (z 3)])) rfl
    have hL : (((((wL E ad F A R z N f n m Fm Am O).set 15 (one9 (agA E Y9))).set 14 (one9 (.inr (1, [.ref u9, .int (Aq 11 0), .int (Aq 11 6)])))).set 0 (one9 (.inr (10, [.ref (ad 1 0), .ref (ad 3 0), .ref (ad 10 0), .ref (ad 20 0), .int (-1)])))).set 1 (one9 (.inr (9, [.ref (ad 2 0), .int 0])))).set 10 (one9 (.inr (4, [.ref (ad 11 0), .ref (ad 13 0), .ref q9, .int (F 24), .int (z 3)]))) = wL E (adset (adset ad 15 0 u9) 14 0 q9) (upd (upd (pF (rG (upd F 0 0)) (ragrS A e9).2.1 (ragrS A e9).2.2.1) 19 (-1)) 13 1) Aq (rset R 15 0 Y9.2.2) z N f n m Fm Am O := by
      unfold wL
      rw [hrow 14 (by decide) (by decide), hrow 10 (by decide) (by decide), hrow 3 (by decide) (by decide), hrow 4 (by decide) (by decide), hrow 7 (by decide) (by decide), hrow 8 (by decide) (by decide), hrow 5 (by decide) (by decide), hrow 6 (by decide) (by decide), hrow 21 (by decide) (by decide), hrow 28 (by decide) (by decide)]
      rfl
    rw [hL] at Wz
    have X1 : CR E (adset (adset ad 15 0 u9) 14 0 q9) (upd (upd (pF (rG (upd F 0 0)) (ragrS A e9).2.1 (ragrS A e9).2.2.1) 19 (-1)) 13 1) Aq (rset R 15 0 Y9.2.2) z N f n m := by
      unfold CR
      rw [hrow 14 (by decide) (by decide), hrow 5 (by decide) (by decide), hrow 6 (by decide) (by decide), hrow 25 (by decide) (by decide), hrow 21 (by decide) (by decide), hrow 22 (by decide) (by decide), hrow 28 (by decide) (by decide)]
      exact ⟨X.1, ⟨0, nI_0.symm, by decide⟩, X.2.2.1, fun q hq => ⟨(X.2.2.2.1 q hq).1.trans (rlow_c n (fun a _ => ⟨by rw [hrow 5 (by decide) (by decide)], by rw [hrow 3 (by decide) (by decide)]⟩)), (X.2.2.2.1 q hq).2.trans (rhigh_c n (fun a _ => ⟨by rw [hrow 5 (by decide) (by decide)], by rw [hrow 3 (by decide) (by decide)]⟩))⟩, X.2.2.2.2.1, X.2.2.2.2.2.1, X.2.2.2.2.2.2.1, ⟨y3, fun k k1 k2 => y4 k k1 k2⟩, ⟨fun q => absurd (show (1 : Int32) = 0 from q) (by decide), y5, y6, Or.inr rfl⟩, X.2.2.2.2.2.2.2.2.2.1, X.2.2.2.2.2.2.2.2.2.2.1, X.2.2.2.2.2.2.2.2.2.2.2.1, X.2.2.2.2.2.2.2.2.2.2.2.2.1, X.2.2.2.2.2.2.2.2.2.2.2.2.2⟩
    exact hk _ ⟨adset (adset ad 15 0 u9) 14 0 q9, rset R 15 0 Y9.2.2, z, N, f, O, Wz, X1, rfl, rfl, rfl⟩
  · --f19
    refine g_throw (x := "java/lang/IllegalArgumentException") (text := "the text of the agreement is wrong") (names := ["java/lang/RuntimeException", "java/lang/Exception"]) (ik := 57) (is := 89) (ic := 61) (key := 202) C (by rw [hK]; exact hl9) htab dX10_agreement_22 rfl dX10_agreement_25 rfl dX10_agreement_26 rfl dX10_agreement_28 rfl dX10_agreement_31 (by decide +kernel) (by decide +kernel) w_422 w_50 (List.mem_of_getElem? (i := 13) rfl) (hat_IAE w_466) (hgood_of w_422 w_50 (hat_IAE w_466)) (roomT hR rfl) ?_
    have hneg : (ragrS A e9).1 < 0 := by
      by_cases q : (ragrS A e9).1 < 0
      · exact q
      · exact absurd (p2 q).1 zc19
    have hff := (p1 hneg).2
    rw [LW_one]
    rw [ag_hx hqu]
    rw [hff]
    have hrow : ∀ k, k ≠ 12 → (ragrS A e9).2.2.2 k = A k := p0
    have Wz := ((((W.gar (agA E (crd (cpartS (cT (A 14)) e9) (fun x => csum x.2.2 ≤ 100) (cT (A 14)) e9 400 (cbl (A 14) e9 0) (0, 0, fun _ => 0) 1).2.2.2) hfu9).gar (agE u9 (crd (cpartS (cT (A 14)) e9) (fun x => csum x.2.2 ≤ 100) (cT (A 14)) e9 400 (cbl (A 14) e9 0) (0, 0, fun _ => 0) 1).2.2.2) (hset_non hqu hqq9)).one 0 (.inr (10, [.ref (ad 1 0), .ref (ad 3 0), .ref (ad 10 0), .ref (ad 20 0), .int (nI (ragrS A e9).2.2.1)])) rfl).one 1 (.inr (9, [.ref (ad 2 0), .int 0])) rfl).gar (q := r9) (.inr (6, [.ref (ad 1 0), .int (nI (crd (cpartS (cT (A 14)) e9) (fun x => csum x.2.2 ≤ 100) (cT (A 14)) e9 400 (cbl (A 14) e9 0) (0, 0, fun _ => 0) 1).2.1), .int (nI (ragrS A e9).2.2.1)])) (hset_non hrt (hset_non hrx (hset_non hrq (hset_non hru hrh))))
    have hk := kx e9 h15 he9 hneg
    generalize hAq : (ragrS A e9).2.2.2 = Aq at hrow hk
    have hL : ((wL E ad F A R z N f n m Fm Am O).set 0 (one9 (.inr (10, [.ref (ad 1 0), .ref (ad 3 0), .ref (ad 10 0), .ref (ad 20 0), .int (nI (ragrS A e9).2.2.1)])))).set 1 (one9 (.inr (9, [.ref (ad 2 0), .int 0]))) = wL E ad (upd (upd (pF (rG (upd F 0 0)) (ragrS A e9).2.1 (ragrS A e9).2.2.1) 19 (nI (ragrS A e9).2.2.1)) 0 1) Aq R z N f n m Fm Am O := by
      unfold wL
      rw [hrow 14 (by decide), hrow 10 (by decide), hrow 3 (by decide), hrow 4 (by decide), hrow 7 (by decide), hrow 8 (by decide), hrow 5 (by decide), hrow 6 (by decide), hrow 11 (by decide), hrow 21 (by decide), hrow 28 (by decide)]
      rfl
    rw [hL] at Wz
    have X1 : CR E ad (upd (upd (pF (rG (upd F 0 0)) (ragrS A e9).2.1 (ragrS A e9).2.2.1) 19 (nI (ragrS A e9).2.2.1)) 0 1) Aq R z N f n m := by
      unfold CR
      rw [hrow 14 (by decide), hrow 5 (by decide), hrow 6 (by decide), hrow 25 (by decide), hrow 11 (by decide), hrow 21 (by decide), hrow 22 (by decide), hrow 28 (by decide)]
      exact ⟨X.1, ⟨0, nI_0.symm, by decide⟩, X.2.2.1, fun q hq => ⟨(X.2.2.2.1 q hq).1.trans (rlow_c n (fun a _ => ⟨by rw [hrow 5 (by decide)], by rw [hrow 3 (by decide)]⟩)), (X.2.2.2.1 q hq).2.trans (rhigh_c n (fun a _ => ⟨by rw [hrow 5 (by decide)], by rw [hrow 3 (by decide)]⟩))⟩, X.2.2.2.2.1, X.2.2.2.2.2.1, X.2.2.2.2.2.2.1, X.2.2.2.2.2.2.2.1, X.2.2.2.2.2.2.2.2.1, X.2.2.2.2.2.2.2.2.2.1, X.2.2.2.2.2.2.2.2.2.2.1, X.2.2.2.2.2.2.2.2.2.2.2.1, X.2.2.2.2.2.2.2.2.2.2.2.2.1, X.2.2.2.2.2.2.2.2.2.2.2.2.2⟩
    exact hk _ ⟨ad, R, z, N, f, O, Wz, X1, rfl, rfl, rfl⟩
