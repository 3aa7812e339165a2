theorem dX10_feed_0 : decode cX10_feed 0 = .ok (.aload_n 0, 1) := by decide +kernel
theorem dX10_feed_1 : decode cX10_feed 1 = .ok (.getfield 10, 3) := by decide +kernel
theorem dX10_feed_4 : decode cX10_feed 4 = .ok (.invokevirtual 41, 3) := by decide +kernel
theorem dX10_feed_7 : decode cX10_feed 7 = .ok (.ifCond .ne 5, 3) := by decide +kernel
theorem dX10_feed_10 : decode cX10_feed 10 = .ok (.iconst (-1), 1) := by decide +kernel
theorem dX10_feed_11 : decode cX10_feed 11 = .ok (.ireturn, 1) := by decide +kernel
theorem dX10_feed_12 : decode cX10_feed 12 = .ok (.aload_n 0, 1) := by decide +kernel
theorem dX10_feed_13 : decode cX10_feed 13 = .ok (.getfield 10, 3) := by decide +kernel
theorem dX10_feed_16 : decode cX10_feed 16 = .ok (.iload_n 1, 1) := by decide +kernel
theorem dX10_feed_17 : decode cX10_feed 17 = .ok (.invokevirtual 45, 3) := by decide +kernel
theorem dX10_feed_20 : decode cX10_feed 20 = .ok (.aload_n 0, 1) := by decide +kernel
theorem dX10_feed_21 : decode cX10_feed 21 = .ok (.getfield 10, 3) := by decide +kernel
theorem dX10_feed_24 : decode cX10_feed 24 = .ok (.iload_n 2, 1) := by decide +kernel
theorem dX10_feed_25 : decode cX10_feed 25 = .ok (.invokevirtual 45, 3) := by decide +kernel
theorem dX10_feed_28 : decode cX10_feed 28 = .ok (.aload_n 0, 1) := by decide +kernel
theorem dX10_feed_29 : decode cX10_feed 29 = .ok (.getfield 10, 3) := by decide +kernel
theorem dX10_feed_32 : decode cX10_feed 32 = .ok (.iload_n 3, 1) := by decide +kernel
theorem dX10_feed_33 : decode cX10_feed 33 = .ok (.invokevirtual 45, 3) := by decide +kernel
theorem dX10_feed_36 : decode cX10_feed 36 = .ok (.aload_n 0, 1) := by decide +kernel
theorem dX10_feed_37 : decode cX10_feed 37 = .ok (.getfield 10, 3) := by decide +kernel
theorem dX10_feed_40 : decode cX10_feed 40 = .ok (.iload 4, 2) := by decide +kernel
theorem dX10_feed_42 : decode cX10_feed 42 = .ok (.invokevirtual 45, 3) := by decide +kernel
theorem dX10_feed_45 : decode cX10_feed 45 = .ok (.aload_n 0, 1) := by decide +kernel
theorem dX10_feed_46 : decode cX10_feed 46 = .ok (.getfield 10, 3) := by decide +kernel
theorem dX10_feed_49 : decode cX10_feed 49 = .ok (.iload 5, 2) := by decide +kernel
theorem dX10_feed_51 : decode cX10_feed 51 = .ok (.invokevirtual 45, 3) := by decide +kernel
theorem dX10_feed_54 : decode cX10_feed 54 = .ok (.aload_n 0, 1) := by decide +kernel
theorem dX10_feed_55 : decode cX10_feed 55 = .ok (.getfield 10, 3) := by decide +kernel
theorem dX10_feed_58 : decode cX10_feed 58 = .ok (.invokevirtual 49, 3) := by decide +kernel
theorem dX10_feed_61 : decode cX10_feed 61 = .ok (.ireturn, 1) := by decide +kernel
set_option maxHeartbeats 2000000 in
set_option maxRecDepth 20000 in
theorem cw_feed {l : Launch} {E : Ev} {P : Value → AH → Prop}  {x o ou n m : Nat} {F : Nat → Int32} {A : Nat → Nat → Int32} {Fm : Nat → Int32} {Am : Nat → Nat → Int32} {h : AH} (I9 : WI E x o ou F A n m Fm Am h) {x0 x1 x2 x3 x4 : Int32} (k1 : ∀ tt, F 15 = nI tt → 380 < tt → tt ≤ 400 → P (.int (-1)) h) (k2 : ∀ tt, F 15 = nI tt → tt + 20 ≤ 400 → ∀ h1, WI E x o ou (upd (upd F 0 0) 15 (F 15 + 20)) (ft (rfv A x0 x1 x2 x3 x4) tt 20) n m Fm Am h1 → P (.int (F 15 + 20)) h1) : Mt l E yX10_feed cX10_feed 6 (some .int) 1 22 0 0 [.ref x, .int x0, .int x1, .int x2, .int x3, .int x4] (h) P := by
  refine Mt.of (by decide) (Nat.le_of_ble_eq_true rfl) ?_
  intro K hK hR C
  obtain ⟨ad, R, z, N, f, O, W, X, rfl, rfl, rfl⟩ := I9
  have hx : h (ad 0 0) = some (.inr (10, [.ref (ad 1 0), .ref (ad 3 0), .ref (ad 10 0), .ref (ad 20 0), .int (F 19)])) := W.at 0 0 rfl
  have ht : h (ad 1 0) = some (.inr (9, [.ref (ad 2 0), .int (F 15)])) := W.at 1 0 rfl
  have hb : h (ad 2 0) = some (.inl (E.2.2 0, 400, .inl (A 14))) := W.at 2 0 rfl
  obtain ⟨tt, h15, htt⟩ := X.2.1
  rw [h15] at ht
  have he20 : nI tt + 20 = nI (tt + 20) := nI_add tt 20
  refine g_aload_n (n := 1) C dX10_feed_0 rfl rfl ?_
  refine g_get (n := 4) (T := TX10) C 0 dX10_feed_1 rfl hx rfl rfl (by decide) inX10 w_234 rfl ?_
  refine g_callV (n := 7) (As := []) C dX10_feed_4 rfl mw_X9_hasRoom w_254 (g_recv C ht rfl) rfl rfl (room hR rfl) (cc_troom ht (fun za4 => ?_) (fun zb4 => ?_))
  · --k4.0
    refine g_if_ne (n := 10) (t := 12) C dX10_feed_7 rfl (by decide) (fun zc7 => ?_) (fun zc7 => ?_)
    rotate_left
    · exact absurd zc7 (by decide)
    have h20 : tt + 20 ≤ 400 := by
      rw [he20] at za4
      exact (nI_leI (a := tt + 20) (b := 400) (by omega) (by decide)).mp za4
    rw [LW_is2 ht hb]
    have A0 : lA [(ad 1 0, dE), (ad 2 0, dE)] := lA_two (W.ne (c := 1) (i := 0) (d := 2) (j := 0) rfl rfl (fun q _ => absurd q (by decide)))
    have hxn : ad 0 0 ∉ [ad 1 0, ad 2 0] := (List.not_mem_cons_of_ne_of_not_mem (W.ne (c := 0) (i := 0) (d := 1) (j := 0) rfl rfl (fun q _ => absurd q (by decide))) (List.not_mem_cons_of_ne_of_not_mem (W.ne (c := 0) (i := 0) (d := 2) (j := 0) rfl rfl (fun q _ => absurd q (by decide))) List.not_mem_nil))
    refine g_aload_n (n := 13) C dX10_feed_12 rfl rfl ?_
    refine b_get (n := 16) (T := TX10) 0 C dX10_feed_13 rfl hx hxn rfl rfl (by decide) inX10 w_234 rfl ?_
    refine g_iload_n (n := 17) C dX10_feed_16 rfl rfl ?_
    refine g_callV (n := 20) (As := [.int _]) C dX10_feed_17 rfl mw_X9_put w_258 (g_recv (ci := 9) C (LW_at (by exact A0) 0 rfl) rfl) rfl rfl (room hR rfl) (cc_tput (n := tt) (B := A 14) (W.ne (c := 1) (i := 0) (d := 2) (j := 0) rfl rfl (fun q _ => absurd q (by decide))) (by omega) ?_)
    refine g_aload_n (n := 21) C dX10_feed_20 rfl rfl ?_
    refine b_get (n := 24) (T := TX10) 0 C dX10_feed_21 rfl hx hxn rfl rfl (by decide) inX10 w_234 rfl ?_
    refine g_iload_n (n := 25) C dX10_feed_24 rfl rfl ?_
    refine g_callV (n := 28) (As := [.int _]) C dX10_feed_25 rfl mw_X9_put w_258 (g_recv (ci := 9) C (LW_at (by exact A0) 0 rfl) rfl) rfl rfl (room hR rfl) (cc_tput (n := tt + 4) (B := pu4 (A 14) (tt) x0) (W.ne (c := 1) (i := 0) (d := 2) (j := 0) rfl rfl (fun q _ => absurd q (by decide))) (by omega) ?_)
    refine g_aload_n (n := 29) C dX10_feed_28 rfl rfl ?_
    refine b_get (n := 32) (T := TX10) 0 C dX10_feed_29 rfl hx hxn rfl rfl (by decide) inX10 w_234 rfl ?_
    refine g_iload_n (n := 33) C dX10_feed_32 rfl rfl ?_
    refine g_callV (n := 36) (As := [.int _]) C dX10_feed_33 rfl mw_X9_put w_258 (g_recv (ci := 9) C (LW_at (by exact A0) 0 rfl) rfl) rfl rfl (room hR rfl) (cc_tput (n := tt + 4 + 4) (B := pu4 (pu4 (A 14) (tt) x0) (tt + 4) x1) (W.ne (c := 1) (i := 0) (d := 2) (j := 0) rfl rfl (fun q _ => absurd q (by decide))) (by omega) ?_)
    refine g_aload_n (n := 37) C dX10_feed_36 rfl rfl ?_
    refine b_get (n := 40) (T := TX10) 0 C dX10_feed_37 rfl hx hxn rfl rfl (by decide) inX10 w_234 rfl ?_
    refine g_iload (n := 42) C dX10_feed_40 rfl rfl ?_
    refine g_callV (n := 45) (As := [.int _]) C dX10_feed_42 rfl mw_X9_put w_258 (g_recv (ci := 9) C (LW_at (by exact A0) 0 rfl) rfl) rfl rfl (room hR rfl) (cc_tput (n := tt + 4 + 4 + 4) (B := pu4 (pu4 (pu4 (A 14) (tt) x0) (tt + 4) x1) (tt + 4 + 4) x2) (W.ne (c := 1) (i := 0) (d := 2) (j := 0) rfl rfl (fun q _ => absurd q (by decide))) (by omega) ?_)
    refine g_aload_n (n := 46) C dX10_feed_45 rfl rfl ?_
    refine b_get (n := 49) (T := TX10) 0 C dX10_feed_46 rfl hx hxn rfl rfl (by decide) inX10 w_234 rfl ?_
    refine g_iload (n := 51) C dX10_feed_49 rfl rfl ?_
    refine g_callV (n := 54) (As := [.int _]) C dX10_feed_51 rfl mw_X9_put w_258 (g_recv (ci := 9) C (LW_at (by exact A0) 0 rfl) rfl) rfl rfl (room hR rfl) (cc_tput (n := tt + 4 + 4 + 4 + 4) (B := pu4 (pu4 (pu4 (pu4 (A 14) (tt) x0) (tt + 4) x1) (tt + 4 + 4) x2) (tt + 4 + 4 + 4) x3) (W.ne (c := 1) (i := 0) (d := 2) (j := 0) rfl rfl (fun q _ => absurd q (by decide))) (by omega) ?_)
    refine g_aload_n (n := 55) C dX10_feed_54 rfl rfl ?_
    refine b_get (n := 58) (T := TX10) 0 C dX10_feed_55 rfl hx hxn rfl rfl (by decide) inX10 w_234 rfl ?_
    refine g_callV (n := 61) (As := []) C dX10_feed_58 rfl mw_X9_length w_262 (g_recv (ci := 9) C (LW_at (by exact A0) 0 rfl) rfl) rfl rfl (room hR rfl) (cc_tlen (LW_at (by exact A0) 0 rfl) ?_)
    refine g_iret C dX10_feed_61 (by decide) (by decide) ?_
    rw [LW_cons, LW_cons, LW_nil]
    dsimp only
    have hrow : ∀ k, k ≠ 14 → k ≠ 20 → (ft (rfv A x0 x1 x2 x3 x4) tt 20) k = A k := fun k h1 h2 => by
      rw [ft_ne _ _ _ h1]
      unfold rfv
      rw [aset_row _ _ _ h2, aset_row _ _ _ h2, aset_row _ _ _ h2, aset_row _ _ _ h2, aset_row _ _ _ h2]
    have h14 := feed_row A tt x0 x1 x2 x3 x4
    have hrg := ft_rg (t := tt) (x0 := x0) (x1 := x1) (x2 := x2) (x3 := x3) (x4 := x4) X.2.2.1
    have W1 := (W.one 2 (.inl (E.2.2 0, 400, .inl (pu4 (pu4 (pu4 (pu4 (pu4 (A 14) (tt) x0) (tt + 4) x1) (tt + 4 + 4) x2) (tt + 4 + 4 + 4) x3) (tt + 4 + 4 + 4 + 4) x4))) rfl).one 1 (.inr (9, [.ref (ad 2 0), .int (nI (tt + 20))])) rfl
    have hk := k2 tt h15 h20
    rw [h15, he20] at hk
    generalize hAq : (ft (rfv A x0 x1 x2 x3 x4) tt 20) = Aq at hrow h14 hrg hk
    rw [h14] at W1
    have hL : ((wL E ad F A R z N f n m Fm Am O).set 2 (one9 (.inl (E.2.2 0, 400, .inl (Aq 14))))).set 1 (one9 (.inr (9, [.ref (ad 2 0), .int (nI (tt + 20))]))) = wL E ad (upd (upd F 0 0) 15 (nI (tt + 20))) Aq R z N f n m Fm Am O := by
      unfold wL
      rw [hrow 10 (by decide) (by decide), hrow 3 (by decide) (by decide), hrow 4 (by decide) (by decide), hrow 7 (by decide) (by decide), hrow 8 (by decide) (by decide), hrow 5 (by decide) (by decide), hrow 6 (by decide) (by decide), hrow 11 (by decide) (by decide), hrow 21 (by decide) (by decide), hrow 28 (by decide) (by decide)]
      rfl
    rw [hL] at W1
    have X1 : CR E ad (upd (upd F 0 0) 15 (nI (tt + 20))) Aq R z N f n m := by
      unfold CR
      rw [hrow 5 (by decide) (by decide), hrow 6 (by decide) (by decide), hrow 25 (by decide) (by decide), hrow 11 (by decide) (by decide), hrow 21 (by decide) (by decide), hrow 22 (by decide) (by decide), hrow 28 (by decide) (by decide)]
      exact ⟨X.1, ⟨tt + 20, rfl, h20⟩, hrg, fun q hq => ⟨(X.2.2.2.1 q hq).1.trans (rlow_c n (fun a _ => ⟨by rw [hrow 5 (by decide) (by decide)], by rw [hrow 3 (by decide) (by decide)]⟩)), (X.2.2.2.1 q hq).2.trans (rhigh_c n (fun a _ => ⟨by rw [hrow 5 (by decide) (by decide)], by rw [hrow 3 (by decide) (by decide)]⟩))⟩, X.2.2.2.2.1, X.2.2.2.2.2.1, X.2.2.2.2.2.2.1, X.2.2.2.2.2.2.2.1, X.2.2.2.2.2.2.2.2.1, X.2.2.2.2.2.2.2.2.2.1, X.2.2.2.2.2.2.2.2.2.2.1, X.2.2.2.2.2.2.2.2.2.2.2.1, X.2.2.2.2.2.2.2.2.2.2.2.2.1, X.2.2.2.2.2.2.2.2.2.2.2.2.2⟩
    have h14b := h14
    unfold pu4 at h14
    refine hk _ ⟨ad, R, z, N, f, O, ?_, X1, rfl, rfl, rfl⟩
    rw [← h14] at W1
    exact W1
  · --k4.1
    refine g_if_ne (n := 10) (t := 12) C dX10_feed_7 rfl (by decide) (fun zc7 => ?_) (fun zc7 => ?_)
    · exact absurd zc7 (by decide)
    refine g_iconst (n := 11) (v := (-1)) C dX10_feed_10 rfl (by decide) ?_
    refine g_iret C dX10_feed_11 (by decide) (by decide) ?_
    have h20 : 380 < tt := by
      rcases Nat.lt_or_ge 380 tt with q | q
      · exact q
      · exact absurd (by rw [he20]; exact nI_le (a := tt + 20) (b := 400) (by omega) (by decide)) zb4
    exact k1 tt h15 h20 htt
theorem dX10_readTape_0 : decode cX10_readTape 0 = .ok (.new 282, 3) := by decide +kernel
theorem dX10_readTape_3 : decode cX10_readTape 3 = .ok (.dup, 1) := by decide +kernel
theorem dX10_readTape_4 : decode cX10_readTape 4 = .ok (.aload_n 0, 1) := by decide +kernel
theorem dX10_readTape_5 : decode cX10_readTape 5 = .ok (.getfield 10, 3) := by decide +kernel
theorem dX10_readTape_8 : decode cX10_readTape 8 = .ok (.invokespecial 284, 3) := by decide +kernel
theorem dX10_readTape_11 : decode cX10_readTape 11 = .ok (.astore_n 2, 1) := by decide +kernel
theorem dX10_readTape_12 : decode cX10_readTape 12 = .ok (.aload_n 1, 1) := by decide +kernel
theorem dX10_readTape_13 : decode cX10_readTape 13 = .ok (.aload_n 2, 1) := by decide +kernel
theorem dX10_readTape_14 : decode cX10_readTape 14 = .ok (.invokevirtual 287, 3) := by decide +kernel
theorem dX10_readTape_17 : decode cX10_readTape 17 = .ok (.istore_n 3, 1) := by decide +kernel
theorem dX10_readTape_18 : decode cX10_readTape 18 = .ok (.aload_n 0, 1) := by decide +kernel
theorem dX10_readTape_19 : decode cX10_readTape 19 = .ok (.aload_n 2, 1) := by decide +kernel
theorem dX10_readTape_20 : decode cX10_readTape 20 = .ok (.invokevirtual 293, 3) := by decide +kernel
theorem dX10_readTape_23 : decode cX10_readTape 23 = .ok (.putfield 37, 3) := by decide +kernel
theorem dX10_readTape_26 : decode cX10_readTape 26 = .ok (.aload_n 0, 1) := by decide +kernel
theorem dX10_readTape_27 : decode cX10_readTape 27 = .ok (.getfield 10, 3) := by decide +kernel
theorem dX10_readTape_30 : decode cX10_readTape 30 = .ok (.iconst 0, 1) := by decide +kernel
theorem dX10_readTape_31 : decode cX10_readTape 31 = .ok (.invokevirtual 53, 3) := by decide +kernel
theorem dX10_readTape_34 : decode cX10_readTape 34 = .ok (.pop, 1) := by decide +kernel
theorem dX10_readTape_35 : decode cX10_readTape 35 = .ok (.iload_n 3, 1) := by decide +kernel
theorem dX10_readTape_36 : decode cX10_readTape 36 = .ok (.ireturn, 1) := by decide +kernel
set_option maxHeartbeats 2000000 in
set_option maxRecDepth 20000 in
theorem cw_rt_law {l : Launch} {E : Ev} {P : Value → AH → Prop}  {x t b n a k9 mk g : Nat} {B : Nat → Int32} {lf : Int32} {h : AH} {x0 : Int32 × Int32 × Int32} (hx : h x = some (.inr (10, [.ref t, .ref k9, .ref mk, .ref g, .int lf]))) (ht : h t = some (.inr (9, [.ref b, .int (nI n)]))) (hb : h b = some (.inl (E.2.2 0, 400, .inl B))) (hn : n ≤ 400) (ha : h a = some (lawE x0)) (hp : ∀ r, h r = none → P (.int (crd (cterm (cT B) n) (fun _ => True) (cT B) n 400 (cbl B n 0) x0 1).1) (LW [(r, (.inr (6, [.ref t, .int (nI (crd (cterm (cT B) n) (fun _ => True) (cT B) n 400 (cbl B n 0) x0 1).2.1), .int (crd (cterm (cT B) n) (fun _ => True) (cT B) n 400 (cbl B n 0) x0 1).2.2.1])))] (hset (hset (hset h a (lawE (crd (cterm (cT B) n) (fun _ => True) (cT B) n 400 (cbl B n 0) x0 1).2.2.2)) x (.inr (10, [.ref t, .ref k9, .ref mk, .ref g, .int (crd (cterm (cT B) n) (fun _ => True) (cT B) n 400 (cbl B n 0) x0 1).2.2.1]))) t (.inr (9, [.ref b, .int 0]))))) : Mt l E yX10_readTape cX10_readTape 4 (some .int) 8 172 1 3 [.ref x, .ref a] (h) P := by
  refine Mt.of (by decide) (Nat.le_of_ble_eq_true rfl) ?_
  intro K hK hR C
  have hta : t ≠ a := fun z => by rw [z, ha] at ht; cases ht
  have hba : b ≠ a := fun z => by rw [z, ha] at hb; cases hb
  have hxa : x ≠ a := fun z => by rw [z, ha] at hx; cases hx
  have hxt : x ≠ t := fun z => by rw [z, ht] at hx; cases hx
  refine g_new (n := 3) (ci := 6) (T := TX6) (fs := [.null, .int 0, .int 0]) (ty0 := tyX6) C dX10_readTape_0 rfl rfl inX6 w_523 w_524 w_54 tyX6_ok (by decide) (roomC hR rfl) (roomS hR rfl) ?_
  intro r hqr her
  rw [← LW_one]
  have hxr : x ∉ [r] := nm1 hqr hx
  have htr : t ∉ [r] := nm1 hqr ht
  have hbr : b ∉ [r] := nm1 hqr hb
  have har : a ∉ [r] := nm1 hqr ha
  have A0 : lA [(r, (.inr (6, [.null, .int 0, .int 0]) : va_E))] := lA_one _ _
  refine g_dup (n := 4) C dX10_readTape_3 rfl rfl ?_
  refine g_aload_n (n := 5) C dX10_readTape_4 rfl rfl ?_
  refine b_get (n := 8) (T := TX10) 0 C dX10_readTape_5 rfl hx hxr rfl rfl (by decide) inX10 w_234 rfl ?_
  refine g_callI (n := 11) (As := [.ref _]) C dX10_readTape_8 rfl mw_X6_init w_525 rfl rfl (room hR rfl) (cc_rinit ht hb hn htr hbr ?_)
  refine g_astore_n (n := 12) C dX10_readTape_11 rfl (by decide) ?_
  refine g_aload_n (n := 13) C dX10_readTape_12 rfl rfl ?_
  refine g_aload_n (n := 14) C dX10_readTape_13 rfl rfl ?_
  rw [show LW [(r, ((.inr (6, [.ref t, .int (nI (cbl B n 0)), .int (-1)])) : va_E))] h = LW [(r, ((.inr (6, [.ref t, .int (nI (cbl B n 0)), .int (-1)])) : va_E))] (hset h a (lawE x0)) from by rw [hset_id ha]]
  have ha0 : (hset h a (lawE x0)) a = some (lawE x0) := hset_same _ _ _
  refine g_callU (n := 17) (n0 := 1) (x := ⟨"GemPits$Clauses", "readAll", "(LGemPits$Reader;)I"⟩) (As := [.ref r]) (Cn := "GemPits$Law") C dX10_readTape_14 rfl w_548 w_550 (va_Decl.of (C.gw w_549) (C.gw w_553)) (C.gw w_552) w_549 w_40 w_553 (by decide) (g_recv (ci := 3) C (lnb ha0 (by exact har)) rfl) rfl rfl (room hR rfl) (cc_readAll_law (x0 := x0) ht hb hn htr hbr har hta hba (rsc_le (Nat.zero_le _)) ?_)
  have hx2 : (hset h a (lawE (crd (cterm (cT B) n) (fun _ => True) (cT B) n 400 (cbl B n 0) x0 1).2.2.2)) x = some (.inr (10, [.ref t, .ref k9, .ref mk, .ref g, .int lf])) := (hset_ne _ _ hxa).trans hx
  have ht2 : (hset h a (lawE (crd (cterm (cT B) n) (fun _ => True) (cT B) n 400 (cbl B n 0) x0 1).2.2.2)) t = some (.inr (9, [.ref b, .int (nI n)])) := (hset_ne _ _ hta).trans ht
  have A1 : lA [(r, ((.inr (6, [.ref t, .int (nI (crd (cterm (cT B) n) (fun _ => True) (cT B) n 400 (cbl B n 0) x0 1).2.1), .int (crd (cterm (cT B) n) (fun _ => True) (cT B) n 400 (cbl B n 0) x0 1).2.2.1])) : va_E))] := lA_one _ _
  refine g_istore_n (n := 18) C dX10_readTape_17 rfl (by decide) ?_
  refine g_aload_n (n := 19) C dX10_readTape_18 rfl rfl ?_
  refine g_aload_n (n := 20) C dX10_readTape_19 rfl rfl ?_
  refine g_callV (n := 23) (As := []) C dX10_readTape_20 rfl mw_X6_firstFault w_675 (g_recv (ci := 6) C (LW_at (by exact A1) 0 rfl) rfl) rfl rfl (room hR rfl) (cc_ff (LW_at (by exact A1) 0 rfl) ?_)
  refine b_put (n := 26) (T := TX10) (ty0 := tyX10) 4 C dX10_readTape_23 rfl hx2 hxr rfl (by decide) inX10 w_238 rfl tyX10_ok nmX10 rfl rfl rfl rfl (by show 4 < 5; decide) ?_
  dsimp only [List.set]
  have hx3 : (hset (hset h a (lawE (crd (cterm (cT B) n) (fun _ => True) (cT B) n 400 (cbl B n 0) x0 1).2.2.2)) x (.inr (10, [.ref t, .ref k9, .ref mk, .ref g, .int (crd (cterm (cT B) n) (fun _ => True) (cT B) n 400 (cbl B n 0) x0 1).2.2.1]))) x = some (.inr (10, [.ref t, .ref k9, .ref mk, .ref g, .int (crd (cterm (cT B) n) (fun _ => True) (cT B) n 400 (cbl B n 0) x0 1).2.2.1])) := hset_same _ _ _
  have ht3 : (hset (hset h a (lawE (crd (cterm (cT B) n) (fun _ => True) (cT B) n 400 (cbl B n 0) x0 1).2.2.2)) x (.inr (10, [.ref t, .ref k9, .ref mk, .ref g, .int (crd (cterm (cT B) n) (fun _ => True) (cT B) n 400 (cbl B n 0) x0 1).2.2.1]))) t = some (.inr (9, [.ref b, .int (nI n)])) := (hset_ne _ _ hxt.symm).trans ht2
  refine g_aload_n (n := 27) C dX10_readTape_26 rfl rfl ?_
  refine b_get (n := 30) (T := TX10) 0 C dX10_readTape_27 rfl hx3 hxr rfl rfl (by decide) inX10 w_234 rfl ?_
  refine g_iconst (n := 31) (v := 0) C dX10_readTape_30 rfl (by decide) ?_
  refine g_callV (n := 34) (As := [.int _]) C dX10_readTape_31 rfl mw_X9_shorten w_270 (g_recv C (lnb ht3 (by exact htr)) rfl) rfl rfl (room hR rfl) (cc_tshort (lnb ht3 (by exact htr)) (fun zs => ?_) (fun zs1 zs2 => ?_))
  · --k31.0
    refine g_pop (n := 35) C dX10_readTape_34 rfl rfl ?_
    refine g_iload_n (n := 36) C dX10_readTape_35 rfl rfl ?_
    refine g_iret C dX10_readTape_36 (by decide) (by decide) ?_
    exact absurd zs (fun q => q.elim (fun y => Int32.lt_irrefl y) (fun y => Int32.not_lt.mpr (nI_le (a := 0) (Nat.zero_le n) (by omega)) y))
  · --k31.1
    refine g_pop (n := 35) C dX10_readTape_34 rfl rfl ?_
    refine g_iload_n (n := 36) C dX10_readTape_35 rfl rfl ?_
    refine g_iret C dX10_readTape_36 (by decide) (by decide) ?_
    rw [LW_under (by exact htr)]
    exact hp r hqr
set_option maxHeartbeats 2000000 in
set_option maxRecDepth 20000 in
theorem cw_rt_agr {l : Launch} {E : Ev} {P : Value → AH → Prop}  {x t b n a k9 mk g u : Nat} {B : Nat → Int32} {lf : Int32} {h : AH} {x0 : AgX} (hx : h x = some (.inr (10, [.ref t, .ref k9, .ref mk, .ref g, .int lf]))) (ht : h t = some (.inr (9, [.ref b, .int (nI n)]))) (hb : h b = some (.inl (E.2.2 0, 400, .inl B))) (hn : n ≤ 400) (ha : h a = some (agE u x0)) (hu : h u = some (agA E x0)) (hp : ∀ r, h r = none → P (.int (crd (cpartS (cT B) n) (fun x => csum x.2.2 ≤ 100) (cT B) n 400 (cbl B n 0) x0 1).1) (LW [(r, (.inr (6, [.ref t, .int (nI (crd (cpartS (cT B) n) (fun x => csum x.2.2 ≤ 100) (cT B) n 400 (cbl B n 0) x0 1).2.1), .int (crd (cpartS (cT B) n) (fun x => csum x.2.2 ≤ 100) (cT B) n 400 (cbl B n 0) x0 1).2.2.1])))] (hset (hset (hset (hset h u (agA E (crd (cpartS (cT B) n) (fun x => csum x.2.2 ≤ 100) (cT B) n 400 (cbl B n 0) x0 1).2.2.2)) a (agE u (crd (cpartS (cT B) n) (fun x => csum x.2.2 ≤ 100) (cT B) n 400 (cbl B n 0) x0 1).2.2.2)) x (.inr (10, [.ref t, .ref k9, .ref mk, .ref g, .int (crd (cpartS (cT B) n) (fun x => csum x.2.2 ≤ 100) (cT B) n 400 (cbl B n 0) x0 1).2.2.1]))) t (.inr (9, [.ref b, .int 0]))))) : Mt l E yX10_readTape cX10_readTape 4 (some .int) 8 172 1 3 [.ref x, .ref a] (h) P := by
  refine Mt.of (by decide) (Nat.le_of_ble_eq_true rfl) ?_
  intro K hK hR C
  have hta : t ≠ a := fun z => by rw [z, ha] at ht; cases ht
  have hba : b ≠ a := fun z => by rw [z, ha] at hb; cases hb
  have hxa : x ≠ a := fun z => by rw [z, ha] at hx; cases hx
  have hxt : x ≠ t := fun z => by rw [z, ht] at hx; cases hx
  have hau : a ≠ u := fun z => by rw [z, hu] at ha; cases ha
  have htu : t ≠ u := fun z => by rw [z, hu] at ht; cases ht
  have hbu : b ≠ u := fun z => by
    rw [z, hu] at hb
    simp only [Option.some.injEq, Sum.inl.injEq, Prod.mk.injEq] at hb
    exact absurd hb.2.1 (by decide)
  have hxu : x ≠ u := fun z => by rw [z, hu] at hx; cases hx
  refine g_new (n := 3) (ci := 6) (T := TX6) (fs := [.null, .int 0, .int 0]) (ty0 := tyX6) C dX10_readTape_0 rfl rfl inX6 w_523 w_524 w_54 tyX6_ok (by decide) (roomC hR rfl) (roomS hR rfl) ?_
  intro r hqr her
  rw [← LW_one]
  have hxr : x ∉ [r] := nm1 hqr hx
  have htr : t ∉ [r] := nm1 hqr ht
  have hbr : b ∉ [r] := nm1 hqr hb
  have har : a ∉ [r] := nm1 hqr ha
  have hur : u ∉ [r] := nm1 hqr hu
  have A0 : lA [(r, (.inr (6, [.null, .int 0, .int 0]) : va_E))] := lA_one _ _
  refine g_dup (n := 4) C dX10_readTape_3 rfl rfl ?_
  refine g_aload_n (n := 5) C dX10_readTape_4 rfl rfl ?_
  refine b_get (n := 8) (T := TX10) 0 C dX10_readTape_5 rfl hx hxr rfl rfl (by decide) inX10 w_234 rfl ?_
  refine g_callI (n := 11) (As := [.ref _]) C dX10_readTape_8 rfl mw_X6_init w_525 rfl rfl (room hR rfl) (cc_rinit ht hb hn htr hbr ?_)
  refine g_astore_n (n := 12) C dX10_readTape_11 rfl (by decide) ?_
  refine g_aload_n (n := 13) C dX10_readTape_12 rfl rfl ?_
  refine g_aload_n (n := 14) C dX10_readTape_13 rfl rfl ?_
  rw [show LW [(r, ((.inr (6, [.ref t, .int (nI (cbl B n 0)), .int (-1)])) : va_E))] h = LW [(r, ((.inr (6, [.ref t, .int (nI (cbl B n 0)), .int (-1)])) : va_E))] (hset (hset h u (agA E x0)) a (agE u x0)) from by rw [show hset (hset h u (agA E x0)) a (agE u x0) = h from by rw [hset_id hu, hset_id ha]]]
  have ha0 : (hset (hset h u (agA E x0)) a (agE u x0)) a = some (agE u x0) := hset_same _ _ _
  refine g_callU (n := 17) (n0 := 1) (x := ⟨"GemPits$Clauses", "readAll", "(LGemPits$Reader;)I"⟩) (As := [.ref r]) (Cn := "GemPits$Agreement") C dX10_readTape_14 rfl w_548 w_550 (va_Decl.of (C.gw w_549) (C.gw w_553)) (C.gw w_551) w_549 w_40 w_553 (by decide) (g_recv (ci := 1) C (lnb ha0 (by exact har)) rfl) rfl rfl (room hR rfl) (cc_readAll_agr (x0 := x0) ht hb hn htr hbr har hta hba (by exact nm1 hqr hu) hau htu hbu (rsc_le (Nat.zero_le _)) ?_)
  have hx2 : (hset (hset h u (agA E (crd (cpartS (cT B) n) (fun x => csum x.2.2 ≤ 100) (cT B) n 400 (cbl B n 0) x0 1).2.2.2)) a (agE u (crd (cpartS (cT B) n) (fun x => csum x.2.2 ≤ 100) (cT B) n 400 (cbl B n 0) x0 1).2.2.2)) x = some (.inr (10, [.ref t, .ref k9, .ref mk, .ref g, .int lf])) := ((hset_ne _ _ hxa).trans (hset_ne _ _ hxu)).trans hx
  have ht2 : (hset (hset h u (agA E (crd (cpartS (cT B) n) (fun x => csum x.2.2 ≤ 100) (cT B) n 400 (cbl B n 0) x0 1).2.2.2)) a (agE u (crd (cpartS (cT B) n) (fun x => csum x.2.2 ≤ 100) (cT B) n 400 (cbl B n 0) x0 1).2.2.2)) t = some (.inr (9, [.ref b, .int (nI n)])) := ((hset_ne _ _ hta).trans (hset_ne _ _ htu)).trans ht
  have A1 : lA [(r, ((.inr (6, [.ref t, .int (nI (crd (cpartS (cT B) n) (fun x => csum x.2.2 ≤ 100) (cT B) n 400 (cbl B n 0) x0 1).2.1), .int (crd (cpartS (cT B) n) (fun x => csum x.2.2 ≤ 100) (cT B) n 400 (cbl B n 0) x0 1).2.2.1])) : va_E))] := lA_one _ _
  refine g_istore_n (n := 18) C dX10_readTape_17 rfl (by decide) ?_
  refine g_aload_n (n := 19) C dX10_readTape_18 rfl rfl ?_
  refine g_aload_n (n := 20) C dX10_readTape_19 rfl rfl ?_
  refine g_callV (n := 23) (As := []) C dX10_readTape_20 rfl mw_X6_firstFault w_675 (g_recv (ci := 6) C (LW_at (by exact A1) 0 rfl) rfl) rfl rfl (room hR rfl) (cc_ff (LW_at (by exact A1) 0 rfl) ?_)
  refine b_put (n := 26) (T := TX10) (ty0 := tyX10) 4 C dX10_readTape_23 rfl hx2 hxr rfl (by decide) inX10 w_238 rfl tyX10_ok nmX10 rfl rfl rfl rfl (by show 4 < 5; decide) ?_
  dsimp only [List.set]
  have hx3 : (hset (hset (hset h u (agA E (crd (cpartS (cT B) n) (fun x => csum x.2.2 ≤ 100) (cT B) n 400 (cbl B n 0) x0 1).2.2.2)) a (agE u (crd (cpartS (cT B) n) (fun x => csum x.2.2 ≤ 100) (cT B) n 400 (cbl B n 0) x0 1).2.2.2)) x (.inr (10, [.ref t, .ref k9, .ref mk, .ref g, .int (crd (cpartS (cT B) n) (fun x => csum x.2.2 ≤ 100) (cT B) n 400 (cbl B n 0) x0 1).2.2.1]))) x = some (.inr (10, [.ref t, .ref k9, .ref mk, .ref g, .int (crd (cpartS (cT B) n) (fun x => csum x.2.2 ≤ 100) (cT B) n 400 (cbl B n 0) x0 1).2.2.1])) := hset_same _ _ _
  have ht3 : (hset (hset (hset h u (agA E (crd (cpartS (cT B) n) (fun x => csum x.2.2 ≤ 100) (cT B) n 400 (cbl B n 0) x0 1).2.2.2)) a (agE u (crd (cpartS (cT B) n) (fun x => csum x.2.2 ≤ 100) (cT B) n 400 (cbl B n 0) x0 1).2.2.2)) x (.inr (10, [.ref t, .ref k9, .ref mk, .ref g, .int (crd (cpartS (cT B) n) (fun x => csum x.2.2 ≤ 100) (cT B) n 400 (cbl B n 0) x0 1).2.2.1]))) t = some (.inr (9, [.ref b, .int (nI n)])) := (hset_ne _ _ hxt.symm).trans ht2
  refine g_aload_n (n := 27) C dX10_readTape_26 rfl rfl ?_
  refine b_get (n := 30) (T := TX10) 0 C dX10_readTape_27 rfl hx3 hxr rfl rfl (by decide) inX10 w_234 rfl ?_
  refine g_iconst (n := 31) (v := 0) C dX10_readTape_30 rfl (by decide) ?_
  refine g_callV (n := 34) (As := [.int _]) C dX10_readTape_31 rfl mw_X9_shorten w_270 (g_recv C (lnb ht3 (by exact htr)) rfl) rfl rfl (room hR rfl) (cc_tshort (lnb ht3 (by exact htr)) (fun zs => ?_) (fun zs1 zs2 => ?_))
  · --k31.0
    refine g_pop (n := 35) C dX10_readTape_34 rfl rfl ?_
    refine g_iload_n (n := 36) C dX10_readTape_35 rfl rfl ?_
    refine g_iret C dX10_readTape_36 (by decide) (by decide) ?_
    exact absurd zs (fun q => q.elim (fun y => Int32.lt_irrefl y) (fun y => Int32.not_lt.mpr (nI_le (a := 0) (Nat.zero_le n) (by omega)) y))
  · --k31.1
    refine g_pop (n := 35) C dX10_readTape_34 rfl rfl ?_
    refine g_iload_n (n := 36) C dX10_readTape_35 rfl rfl ?_
    refine g_iret C dX10_readTape_36 (by decide) (by decide) ?_
    rw [LW_under (by exact htr)]
    exact hp r hqr
