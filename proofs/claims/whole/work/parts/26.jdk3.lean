theorem cpy_lt {f g : Nat → Option Nat} {N i : Nat} (h : i < N) : va_cpy f g 0 0 N i = f i := by
  unfold va_cpy
  rw [if_pos ⟨Nat.zero_le _, by omega⟩]
  exact congrArg f (by omega)
theorem isO_set {h : AH} {a b ci : Nat} {vs ws : List Value} (ha : h a = some (.inr (ci, vs))) (hb : isO h b) : isO (hset h a (.inr (ci, ws))) b := by
  obtain ⟨cj, us, r, y1, y2, y3⟩ := hb
  by_cases e : b = a
  · subst e
    rw [ha] at y1
    cases y1
    exact ⟨ci, ws, r, hset_same _ _ _, y2, y3⟩
  · exact ⟨cj, us, r, (hset_ne _ _ e).trans y1, y2, y3⟩
theorem isO_new {h : AH} {a b : Nat} {e : va_E} (ha : h a = none) (hb : isO h b) : isO (hset h a e) b := by
  obtain ⟨cj, us, r, y1, y2, y3⟩ := hb
  exact ⟨cj, us, r, (hset_ne _ _ (fun z => by rw [z, ha] at y1; cases y1)).trans y1, y2, y3⟩
theorem isO_arr {h : AH} {a b : Nat} {x : Nat × vp_A} {e : va_E} (ha : h a = some (.inl x)) (hb : isO h b) : isO (hset h a e) b := by
  obtain ⟨cj, us, r, y1, y2, y3⟩ := hb
  exact ⟨cj, us, r, (hset_ne _ _ (fun z => by rw [z, ha] at y1; cases y1)).trans y1, y2, y3⟩
theorem hset4 {h : AH} {a q : Nat} {x x' y y' : va_E} (n : a ≠ q) : hset (hset (hset (hset h q x) a y) q x') a y' = hset (hset h q x') a y' := by
  funext b
  unfold hset
  by_cases h1 : b = a
  · rw [if_pos h1, if_pos h1]
  · rw [if_neg h1, if_neg h1]
    by_cases h2 : b = q
    · rw [if_pos h2, if_neg h1, if_pos h2]
    · rw [if_neg h2, if_neg h2, if_neg h1, if_neg h2]
theorem hset_sw {h : AH} {a q : Nat} {x y : va_E} (n : a ≠ q) : hset (hset h q x) a y = hset (hset h a y) q x := by
  funext b
  unfold hset
  by_cases h1 : b = a
  · rw [if_pos h1, if_pos h1, if_neg (fun z => n (h1.symm.trans z))]
  · rw [if_neg h1]
    by_cases h2 : b = q
    · rw [if_pos h2, if_pos h2]
    · rw [if_neg h2, if_neg h2, if_neg h1]
theorem LW_two {a d : Nat} {x y : va_E} {h : AH} (n : d ≠ a) : LW [(a, x), (d, y)] h = hset (hset h d y) a x := by
  funext b
  unfold LW hset
  by_cases h1 : b = a
  · rw [if_pos h1, h1, List.find?_cons]
    simp
  · have c3 : (a == b) = false := beq_eq_false_iff_ne.mpr (fun z => h1 z.symm)
    rw [if_neg h1, List.find?_cons, c3]
    by_cases h2 : b = d
    · rw [if_pos h2, h2, List.find?_cons]
      simp
    · have c4 : (d == b) = false := beq_eq_false_iff_ne.mpr (fun z => h2 z.symm)
      rw [if_neg h2]
      show (match List.find? _ [(d, y)] with | some q => some q.2 | none => h b) = _
      rw [List.find?_cons, c4]
      rfl
theorem dJx4a65c_grow_92f84_0 : decode cJx4a65c_grow_92f84 0 = .ok (.aload_n 0, 1) := by decide +kernel
theorem dJx4a65c_grow_92f84_1 : decode cJx4a65c_grow_92f84 1 = .ok (.getfield 9, 3) := by decide +kernel
theorem dJx4a65c_grow_92f84_4 : decode cJx4a65c_grow_92f84 4 = .ok (.arraylength, 1) := by decide +kernel
theorem dJx4a65c_grow_92f84_5 : decode cJx4a65c_grow_92f84 5 = .ok (.istore_n 2, 1) := by decide +kernel
theorem dJx4a65c_grow_92f84_6 : decode cJx4a65c_grow_92f84 6 = .ok (.iload_n 2, 1) := by decide +kernel
theorem dJx4a65c_grow_92f84_7 : decode cJx4a65c_grow_92f84 7 = .ok (.ifCond .gt 13, 3) := by decide +kernel
theorem dJx4a65c_grow_92f84_20 : decode cJx4a65c_grow_92f84 20 = .ok (.iload_n 2, 1) := by decide +kernel
theorem dJx4a65c_grow_92f84_21 : decode cJx4a65c_grow_92f84 21 = .ok (.iload_n 1, 1) := by decide +kernel
theorem dJx4a65c_grow_92f84_22 : decode cJx4a65c_grow_92f84 22 = .ok (.iload_n 2, 1) := by decide +kernel
theorem dJx4a65c_grow_92f84_23 : decode cJx4a65c_grow_92f84 23 = .ok (.isub, 1) := by decide +kernel
theorem dJx4a65c_grow_92f84_24 : decode cJx4a65c_grow_92f84 24 = .ok (.iload_n 2, 1) := by decide +kernel
theorem dJx4a65c_grow_92f84_25 : decode cJx4a65c_grow_92f84 25 = .ok (.iconst 1, 1) := by decide +kernel
theorem dJx4a65c_grow_92f84_26 : decode cJx4a65c_grow_92f84 26 = .ok (.ishr, 1) := by decide +kernel
theorem dJx4a65c_grow_92f84_27 : decode cJx4a65c_grow_92f84 27 = .ok (.invokestatic 73, 3) := by decide +kernel
theorem dJx4a65c_grow_92f84_30 : decode cJx4a65c_grow_92f84 30 = .ok (.istore_n 3, 1) := by decide +kernel
theorem dJx4a65c_grow_92f84_31 : decode cJx4a65c_grow_92f84 31 = .ok (.aload_n 0, 1) := by decide +kernel
theorem dJx4a65c_grow_92f84_32 : decode cJx4a65c_grow_92f84 32 = .ok (.aload_n 0, 1) := by decide +kernel
theorem dJx4a65c_grow_92f84_33 : decode cJx4a65c_grow_92f84 33 = .ok (.getfield 9, 3) := by decide +kernel
theorem dJx4a65c_grow_92f84_36 : decode cJx4a65c_grow_92f84 36 = .ok (.iload_n 3, 1) := by decide +kernel
theorem dJx4a65c_grow_92f84_37 : decode cJx4a65c_grow_92f84 37 = .ok (.invokestatic 66, 3) := by decide +kernel
theorem dJx4a65c_grow_92f84_40 : decode cJx4a65c_grow_92f84 40 = .ok (.dup_x1, 1) := by decide +kernel
theorem dJx4a65c_grow_92f84_41 : decode cJx4a65c_grow_92f84 41 = .ok (.putfield 9, 3) := by decide +kernel
theorem dJx4a65c_grow_92f84_44 : decode cJx4a65c_grow_92f84 44 = .ok (.areturn, 1) := by decide +kernel
set_option maxHeartbeats 400000 in
set_option maxRecDepth 20000 in
theorem ct_grow1 {l : Launch} {E : Ev} {P : Value → AH → Prop}  {a d N : Nat} {mc s : Int32} {f : Nat → Option Nat} {h : AH} (he : h a = some (.inr (0, [.int mc, .ref d, .int s]))) (hd : h d = some (eQ E N f)) (hN1 : 1 ≤ N) (hN : N ≤ 60) (hel : ∀ i y, i < N → f i = some y → isO h y) (hp : ∀ q g, h q = none → (∀ i, i < N → g i = f i) → P (.ref q) (hset (hset h q (eQ E (nlen N) g)) a (.inr (0, [.int mc, .ref q, .int s])))) : Mt l E yJx4a65c_grow_92f84 cJx4a65c_grow_92f84 4 (some (.array (.object "java/lang/Object"))) 3 65 1 100 [.ref a, .int (nI (N + 1))] (h) P := by
  refine Mt.of (by decide) (Nat.le_of_ble_eq_true rfl) ?_
  intro K hK hR C
  refine g_aload_n (n := 1) C dJx4a65c_grow_92f84_0 rfl rfl ?_
  refine g_get (n := 4) (T := TJx4a65c) C 1 dJx4a65c_grow_92f84_1 rfl he rfl rfl (by decide) inJx4a65c w_108 rfl ?_
  refine g_alen (n := 5) (v := nI N) C 3 dJx4a65c_grow_92f84_4 rfl hd rfl rfl ?_
  refine g_istore_n (n := 6) C dJx4a65c_grow_92f84_5 rfl (by decide) ?_
  refine g_iload_n (n := 7) C dJx4a65c_grow_92f84_6 rfl rfl ?_
  refine g_if_gt (n := 10) (t := 20) C dJx4a65c_grow_92f84_7 rfl (by decide) (fun zc7 => ?_) (fun zc7 => ?_)
  · --t7
    refine g_iload_n (n := 21) C dJx4a65c_grow_92f84_20 rfl rfl ?_
    refine g_iload_n (n := 22) C dJx4a65c_grow_92f84_21 rfl rfl ?_
    refine g_iload_n (n := 23) C dJx4a65c_grow_92f84_22 rfl rfl ?_
    refine g_isub (n := 24) C dJx4a65c_grow_92f84_23 rfl ?_
    refine g_iload_n (n := 25) C dJx4a65c_grow_92f84_24 rfl rfl ?_
    refine g_iconst (n := 26) (v := 1) C dJx4a65c_grow_92f84_25 rfl (by decide) ?_
    refine g_ishr (n := 27) C dJx4a65c_grow_92f84_26 rfl ?_
    rw [nl_sh N hN, show nI (N + 1) - nI N = (1 : Int32) from (pk_sub (a := N + 1) (b := N) (by omega)).trans (by rw [show N + 1 - N = 1 from by omega]; rfl)]
    refine g_callS (n := 30) (As := [.int _, .int _, .int _]) C dJx4a65c_grow_92f84_27 rfl mw_J8_newLength_cabcc w_792 rfl rfl (room hR rfl) (ct_newLen hN ?_)
    refine g_istore_n (n := 31) C dJx4a65c_grow_92f84_30 rfl (by decide) ?_
    refine g_aload_n (n := 32) C dJx4a65c_grow_92f84_31 rfl rfl ?_
    refine g_aload_n (n := 33) C dJx4a65c_grow_92f84_32 rfl rfl ?_
    refine g_get (n := 36) (T := TJx4a65c) C 1 dJx4a65c_grow_92f84_33 rfl he rfl rfl (by decide) inJx4a65c w_108 rfl ?_
    refine g_iload_n (n := 37) C dJx4a65c_grow_92f84_36 rfl rfl ?_
    refine g_callS (n := 40) (As := [.ref _, .int _]) C dJx4a65c_grow_92f84_37 rfl mw_J7_copyOf_1904c w_800 rfl rfl (room hR rfl) (ct_copy2 hd (M := nlen N) (by have := nl_le N hN; omega) (nl_le N hN).1 hel (fun q hq => ?_))
    refine g_dup_x1 (n := 41) C dJx4a65c_grow_92f84_40 rfl rfl rfl ?_
    refine g_put (n := 44) (T := TJx4a65c) (ty0 := tyJx4a65c) C 1 dJx4a65c_grow_92f84_41 rfl ((hset_ne _ _ (fun z => by rw [z, hq] at he; cases he)).trans he) rfl (by decide) inJx4a65c w_108 rfl tyJx4a65c_ok nmJx4a65c rfl rfl rfl rfl (by show 1 < 3; decide) ?_
    refine g_aret C dJx4a65c_grow_92f84_44 (by first | exact Or.inl ⟨_, rfl⟩ | exact Or.inr ⟨_, rfl⟩) (by decide) (by decide) ?_
    exact hp q _ hq (fun i hi => cpy_lt hi)
  · --f7
    exact absurd (nI_lt (a := 0) (b := N) (by omega) (by omega)) zc7
theorem dJx4a65c_grow_92f84_10 : decode cJx4a65c_grow_92f84 10 = .ok (.aload_n 0, 1) := by decide +kernel
theorem dJx4a65c_grow_92f84_11 : decode cJx4a65c_grow_92f84 11 = .ok (.getfield 9, 3) := by decide +kernel
theorem dJx4a65c_grow_92f84_14 : decode cJx4a65c_grow_92f84 14 = .ok (.getstatic 39, 3) := by decide +kernel
theorem dJx4a65c_grow_92f84_17 : decode cJx4a65c_grow_92f84 17 = .ok (.if_acmp .eq 28, 3) := by decide +kernel
theorem dJx4a65c_grow_92f84_45 : decode cJx4a65c_grow_92f84 45 = .ok (.aload_n 0, 1) := by decide +kernel
theorem dJx4a65c_grow_92f84_46 : decode cJx4a65c_grow_92f84 46 = .ok (.bipush 10, 2) := by decide +kernel
theorem dJx4a65c_grow_92f84_48 : decode cJx4a65c_grow_92f84 48 = .ok (.iload_n 1, 1) := by decide +kernel
theorem dJx4a65c_grow_92f84_49 : decode cJx4a65c_grow_92f84 49 = .ok (.invokestatic 79, 3) := by decide +kernel
theorem dJx4a65c_grow_92f84_52 : decode cJx4a65c_grow_92f84 52 = .ok (.anewarray 7, 3) := by decide +kernel
theorem dJx4a65c_grow_92f84_55 : decode cJx4a65c_grow_92f84 55 = .ok (.dup_x1, 1) := by decide +kernel
theorem dJx4a65c_grow_92f84_56 : decode cJx4a65c_grow_92f84 56 = .ok (.putfield 9, 3) := by decide +kernel
theorem dJx4a65c_grow_92f84_59 : decode cJx4a65c_grow_92f84 59 = .ok (.areturn, 1) := by decide +kernel
set_option maxHeartbeats 400000 in
set_option maxRecDepth 20000 in
theorem ct_grow0 {l : Launch} {E : Ev} {P : Value → AH → Prop}  {a : Nat} {mc s : Int32} {h : AH} (he : h a = some (.inr (0, [.int mc, .ref (E.2.2 10), .int s]))) (hp : ∀ q, h q = none → P (.ref q) (hset (hset h q (eQ E 10 (fun _ => none))) a (.inr (0, [.int mc, .ref q, .int s])))) : Mt l E yJx4a65c_grow_92f84 cJx4a65c_grow_92f84 4 (some (.array (.object "java/lang/Object"))) 3 65 1 100 [.ref a, .int 1] (h) P := by
  refine Mt.of (by decide) (Nat.le_of_ble_eq_true rfl) ?_
  intro K hK hR C
  refine g_aload_n (n := 1) C dJx4a65c_grow_92f84_0 rfl rfl ?_
  refine g_get (n := 4) (T := TJx4a65c) C 1 dJx4a65c_grow_92f84_1 rfl he rfl rfl (by decide) inJx4a65c w_108 rfl ?_
  refine g_dfltLen (n := 5) C dJx4a65c_grow_92f84_4 rfl ?_
  refine g_istore_n (n := 6) C dJx4a65c_grow_92f84_5 rfl (by decide) ?_
  refine g_iload_n (n := 7) C dJx4a65c_grow_92f84_6 rfl rfl ?_
  refine g_if_gt (n := 10) (t := 20) C dJx4a65c_grow_92f84_7 rfl (by decide) (fun zc7 => ?_) (fun zc7 => ?_)
  · exact absurd zc7 (by decide)
  refine g_aload_n (n := 11) C dJx4a65c_grow_92f84_10 rfl rfl ?_
  refine g_get (n := 14) (T := TJx4a65c) C 1 dJx4a65c_grow_92f84_11 rfl he rfl rfl (by decide) inJx4a65c w_108 rfl ?_
  refine g_dflt (n := 17) C dJx4a65c_grow_92f84_14 rfl w_106 ?_
  refine g_acmp_eq (n := 20) (t := 45) C dJx4a65c_grow_92f84_17 rfl (by decide) (fun za17 => ?_) (fun za17 => absurd rfl za17)
  refine g_aload_n (n := 46) C dJx4a65c_grow_92f84_45 rfl rfl ?_
  refine g_bipush (n := 48) (v := 10) C dJx4a65c_grow_92f84_46 rfl (by decide) ?_
  refine g_iload_n (n := 49) C dJx4a65c_grow_92f84_48 rfl rfl ?_
  refine g_max (n := 52) C dJx4a65c_grow_92f84_49 rfl mwM_max w_834 (roomM hR rfl) ?_
  refine g_newq (n := 55) (N := 10) C dJx4a65c_grow_92f84_52 rfl w_835 (by decide) (by decide) (by decide) (roomC hR rfl) (roomS hR rfl) ?_
  intro q hq hqE
  refine g_dup_x1 (n := 56) C dJx4a65c_grow_92f84_55 rfl rfl rfl ?_
  refine g_put (n := 59) (T := TJx4a65c) (ty0 := tyJx4a65c) C 1 dJx4a65c_grow_92f84_56 rfl ((hset_ne _ _ (fun z => by rw [z, hq] at he; cases he)).trans he) rfl (by decide) inJx4a65c w_108 rfl tyJx4a65c_ok nmJx4a65c rfl rfl rfl rfl (by show 1 < 3; decide) ?_
  refine g_aret C dJx4a65c_grow_92f84_59 (by first | exact Or.inl ⟨_, rfl⟩ | exact Or.inr ⟨_, rfl⟩) (by decide) (by decide) ?_
  exact hp q hq
theorem dJx4a65c_grow_d5877_0 : decode cJx4a65c_grow_d5877 0 = .ok (.aload_n 0, 1) := by decide +kernel
theorem dJx4a65c_grow_d5877_1 : decode cJx4a65c_grow_d5877 1 = .ok (.aload_n 0, 1) := by decide +kernel
theorem dJx4a65c_grow_d5877_2 : decode cJx4a65c_grow_d5877 2 = .ok (.getfield 48, 3) := by decide +kernel
theorem dJx4a65c_grow_d5877_5 : decode cJx4a65c_grow_d5877 5 = .ok (.iconst 1, 1) := by decide +kernel
theorem dJx4a65c_grow_d5877_6 : decode cJx4a65c_grow_d5877 6 = .ok (.iadd, 1) := by decide +kernel
theorem dJx4a65c_grow_d5877_7 : decode cJx4a65c_grow_d5877 7 = .ok (.invokevirtual 69, 3) := by decide +kernel
theorem dJx4a65c_grow_d5877_10 : decode cJx4a65c_grow_d5877 10 = .ok (.areturn, 1) := by decide +kernel
set_option maxHeartbeats 400000 in
set_option maxRecDepth 20000 in
theorem ct_grB {l : Launch} {E : Ev} {P : Value → AH → Prop}  {a d N : Nat} {mc : Int32} {f : Nat → Option Nat} {h : AH} (he : h a = some (.inr (0, [.int mc, .ref d, .int (nI N)]))) (hd : h d = some (eQ E N f)) (hN1 : 1 ≤ N) (hN : N ≤ 60) (hel : ∀ i y, i < N → f i = some y → isO h y) (hp : ∀ q M g, h q = none → N + 1 ≤ M → M ≤ 100 → (∀ i, i < N → g i = f i) → P (.ref q) (hset (hset h q (eQ E M g)) a (.inr (0, [.int mc, .ref q, .int (nI N)])))) : Mt l E yJx4a65c_grow_d5877 cJx4a65c_grow_d5877 1 (some (.array (.object "java/lang/Object"))) 4 88 1 100 [.ref a] (h) P := by
  refine Mt.of (by decide) (Nat.le_of_ble_eq_true rfl) ?_
  intro K hK hR C
  refine g_aload_n (n := 1) C dJx4a65c_grow_d5877_0 rfl rfl ?_
  refine g_aload_n (n := 2) C dJx4a65c_grow_d5877_1 rfl rfl ?_
  refine g_get (n := 5) (T := TJx4a65c) C 2 dJx4a65c_grow_d5877_2 rfl he rfl rfl (by decide) inJx4a65c w_109 rfl ?_
  refine g_iconst (n := 6) (v := 1) C dJx4a65c_grow_d5877_5 rfl (by decide) ?_
  refine g_iadd (n := 7) C dJx4a65c_grow_d5877_6 rfl ?_
  rw [nI_1 N]
  refine g_callV (n := 10) (As := [.int _]) C dJx4a65c_grow_d5877_7 rfl mw_Jx4a65c_grow_92f84 w_788 (g_recv C he rfl) rfl rfl (room hR rfl) (ct_grow1 he hd hN1 hN hel (fun q g hq hg => ?_))
  refine g_aret C dJx4a65c_grow_d5877_10 (by first | exact Or.inl ⟨_, rfl⟩ | exact Or.inr ⟨_, rfl⟩) (by decide) (by decide) ?_
  exact hp q _ g hq (nl_le N hN).2 (nl_le N hN).1 hg
set_option maxHeartbeats 400000 in
set_option maxRecDepth 20000 in
theorem ct_grA {l : Launch} {E : Ev} {P : Value → AH → Prop}  {a : Nat} {mc : Int32} {h : AH} (he : h a = some (.inr (0, [.int mc, .ref (E.2.2 10), .int (nI 0)]))) (hp : ∀ q, h q = none → P (.ref q) (hset (hset h q (eQ E 10 (fun _ => none))) a (.inr (0, [.int mc, .ref q, .int (nI 0)])))) : Mt l E yJx4a65c_grow_d5877 cJx4a65c_grow_d5877 1 (some (.array (.object "java/lang/Object"))) 4 88 1 100 [.ref a] (h) P := by
  refine Mt.of (by decide) (Nat.le_of_ble_eq_true rfl) ?_
  intro K hK hR C
  refine g_aload_n (n := 1) C dJx4a65c_grow_d5877_0 rfl rfl ?_
  refine g_aload_n (n := 2) C dJx4a65c_grow_d5877_1 rfl rfl ?_
  refine g_get (n := 5) (T := TJx4a65c) C 2 dJx4a65c_grow_d5877_2 rfl he rfl rfl (by decide) inJx4a65c w_109 rfl ?_
  refine g_iconst (n := 6) (v := 1) C dJx4a65c_grow_d5877_5 rfl (by decide) ?_
  refine g_iadd (n := 7) C dJx4a65c_grow_d5877_6 rfl ?_
  rw [show nI 0 + 1 = 1 from rfl]
  refine g_callV (n := 10) (As := [.int _]) C dJx4a65c_grow_d5877_7 rfl mw_Jx4a65c_grow_92f84 w_788 (g_recv C he rfl) rfl rfl (room hR rfl) (ct_grow0 he (fun q hq => ?_))
  refine g_aret C dJx4a65c_grow_d5877_10 (by first | exact Or.inl ⟨_, rfl⟩ | exact Or.inr ⟨_, rfl⟩) (by decide) (by decide) ?_
  exact hp q hq
/-- the list at a has n elements and room for N, laid at d; none laid yet: N is 0 -/
def alF (E : Ev) (h : AH) (d n N : Nat) (f : Nat → Option Nat) : Prop := ((N = 0 ∧ d = E.2.2 10) ∨ (1 ≤ N ∧ h d = some (eQ E N f))) ∧ n ≤ N ∧ N ≤ 100 ∧ ∀ i y, i < n → f i = some y → isO h y
theorem ct_gr {l : Launch} {E : Ev} {P : Value → AH → Prop} {a d N : Nat} {mc : Int32} {f : Nat → Option Nat} {h : AH} (he : h a = some (.inr (0, [.int mc, .ref d, .int (nI N)]))) (hl : alF E h d N N f) (hN : N ≤ 60) (hp : ∀ q M g, h q = none → N + 1 ≤ M → M ≤ 100 → (∀ i, i < N → g i = f i) → P (.ref q) (hset (hset h q (eQ E M g)) a (.inr (0, [.int mc, .ref q, .int (nI N)])))) : Mt l E yJx4a65c_grow_d5877 cJx4a65c_grow_d5877 1 (some (.array (.object "java/lang/Object"))) 4 88 1 100 [.ref a] h P := by
  obtain ⟨c, -, -, hel⟩ := hl
  rcases c with ⟨h1, h2⟩ | ⟨h1, h2⟩
  · subst h1; subst h2
    exact ct_grA he (fun q hq => hp q 10 _ hq (by decide) (by decide) (fun i hi => absurd hi (Nat.not_lt_zero i)))
  · exact ct_grB he h2 h1 hN hel hp
