theorem LW_one (a : Nat) (e : va_E) (h : AH) : LW [(a, e)] h = hset h a e := by
  funext b
  unfold LW hset
  by_cases c : b = a
  · rw [if_pos c, c, List.find?_cons]
    simp
  · have c3 : (a == b) = false := beq_eq_false_iff_ne.mpr (fun z => c z.symm)
    rw [if_neg c, List.find?_cons, c3]
    rfl
theorem LW_is {a : Nat} {e : va_E} {h : AH} (he : h a = some e) : h = LW [(a, e)] h := (LW_id _ (fun q hq => by
  rw [List.mem_singleton.mp hq]
  exact he)).symm
/-- the first p places filled with v -/
def flf (f : Nat → Int32) (v : Int32) (p : Nat) : Nat → Int32 := fun b => if b < p then v else f b
theorem flf_0 (f : Nat → Int32) (v : Int32) : flf f v 0 = f := by
  funext b
  unfold flf
  rw [if_neg (Nat.not_lt_zero b)]
theorem flf_s (f : Nat → Int32) (v : Int32) (p : Nat) : upd (flf f v p) p v = flf f v (p + 1) := by
  funext b
  unfold upd flf
  by_cases h1 : b = p
  · rw [if_pos h1, if_pos (by omega)]
  · rw [if_neg h1]
    by_cases h2 : b < p
    · rw [if_pos h2, if_pos (by omega)]
    · rw [if_neg h2, if_neg (by omega)]
def nlen (N : Nat) : Nat := N + max 1 (N / 2)
theorem nl_v : ∀ N, N ≤ 60 → nI N + (if (1 : Int32) < nI (N / 2) then nI (N / 2) else 1) = nI (nlen N) := by decide +kernel
theorem nl_le : ∀ N, N ≤ 60 → nlen N ≤ 100 ∧ N + 1 ≤ nlen N := by decide +kernel
theorem nl_sh : ∀ N, N ≤ 60 → nI N >>> ((1 : Int32) &&& 31) = nI (N / 2) := by decide +kernel
theorem dJ7_fill_53178_0 : decode cJ7_fill_53178 0 = .ok (.iconst 0, 1) := by decide +kernel
theorem dJ7_fill_53178_1 : decode cJ7_fill_53178 1 = .ok (.istore_n 2, 1) := by decide +kernel
theorem dJ7_fill_53178_2 : decode cJ7_fill_53178 2 = .ok (.aload_n 0, 1) := by decide +kernel
theorem dJ7_fill_53178_3 : decode cJ7_fill_53178 3 = .ok (.arraylength, 1) := by decide +kernel
theorem dJ7_fill_53178_4 : decode cJ7_fill_53178 4 = .ok (.istore_n 3, 1) := by decide +kernel
theorem dJ7_fill_53178_5 : decode cJ7_fill_53178 5 = .ok (.iload_n 2, 1) := by decide +kernel
theorem dJ7_fill_53178_6 : decode cJ7_fill_53178 6 = .ok (.iload_n 3, 1) := by decide +kernel
theorem dJ7_fill_53178_7 : decode cJ7_fill_53178 7 = .ok (.if_icmp .ge 13, 3) := by decide +kernel
theorem dJ7_fill_53178_10 : decode cJ7_fill_53178 10 = .ok (.aload_n 0, 1) := by decide +kernel
theorem dJ7_fill_53178_11 : decode cJ7_fill_53178 11 = .ok (.iload_n 2, 1) := by decide +kernel
theorem dJ7_fill_53178_12 : decode cJ7_fill_53178 12 = .ok (.iload_n 1, 1) := by decide +kernel
theorem dJ7_fill_53178_13 : decode cJ7_fill_53178 13 = .ok (.iastore, 1) := by decide +kernel
theorem dJ7_fill_53178_14 : decode cJ7_fill_53178 14 = .ok (.iinc 2 1, 3) := by decide +kernel
theorem dJ7_fill_53178_17 : decode cJ7_fill_53178 17 = .ok (.goto (-12), 3) := by decide +kernel
theorem dJ7_fill_53178_20 : decode cJ7_fill_53178 20 = .ok (.return_, 1) := by decide +kernel
set_option maxHeartbeats 400000 in
set_option maxRecDepth 20000 in
theorem ct_fillA {l : Launch} {E : Ev} {P : Value → AH → Prop}  {d N : Nat} {f : Nat → Int32} {v : Int32} {h : AH} (hd : h d = some (.inl (E.2.2 1, N, .inl f))) (hN : N ≤ 10000) (hp : P .null (hset h d (.inl (E.2.2 1, N, .inl (flf f v N))))) : Mt l E yJ7_fill_53178 cJ7_fill_53178 4 none 0 0 0 0 [.ref d, .int v] (h) P := by
  refine Mt.of (by decide) (Nat.le_of_ble_eq_true rfl) ?_
  intro K hK hR C
  rw [← LW_one] at hp
  rw [LW_is hd]
  have A0 : lA [(d, (.inl (E.2.2 1, N, .inl f) : va_E))] := lA_one _ _
  refine g_iconst (n := 1) (v := 0) C dJ7_fill_53178_0 rfl (by decide) ?_
  refine g_istore_n (n := 2) C dJ7_fill_53178_1 rfl (by decide) ?_
  refine g_aload_n (n := 3) C dJ7_fill_53178_2 rfl rfl ?_
  refine l_alen (n := 4) (v := nI N) 0 1 C dJ7_fill_53178_3 rfl A0 rfl rfl rfl ?_
  rw [← flf_0 f v]
  refine g_istore_n (n := 5) C dJ7_fill_53178_4 rfl (by decide) ?_
  have lp : ∀ p : Nat, p ≤ N → ∀ (t : Int32), t = nI p → G K E 4 (QM K E none 0 0 P) 0 0 5 [(0, .ref d), (1, .int v), (2, .int t), (3, .int (nI N))] [] (LW [(d, .inl (E.2.2 1, N, .inl (flf f v p)))] h) := by
    refine loopN (fun p => ∀ (t : Int32), t = nI p → G K E 4 (QM K E none 0 0 P) 0 0 5 [(0, .ref d), (1, .int v), (2, .int t), (3, .int (nI N))] [] (LW [(d, .inl (E.2.2 1, N, .inl (flf f v p)))] h)) (N) ?_
    intro p hlep ihp t et
    subst et
    have A0 : lA [(d, (.inl (E.2.2 1, N, .inl (flf f v p)) : va_E))] := lA_one _ _
    refine g_iload_n (n := 6) C dJ7_fill_53178_5 rfl rfl ?_
    refine g_iload_n (n := 7) C dJ7_fill_53178_6 rfl rfl ?_
    refine g_icmp_ge (n := 10) (t := 20) C dJ7_fill_53178_7 rfl (by decide) (fun zc7 => ?_) (fun zc7 => ?_)
    · --t7
      refine g_vret C dJ7_fill_53178_20 (by decide) (by decide) ?_
      have ep : p = N := i_eq (x := nI N) rfl zc7 hlep (by omega)
      rw [ep]
      exact hp
    · --f7
      refine g_aload_n (n := 11) C dJ7_fill_53178_10 rfl rfl ?_
      refine g_iload_n (n := 12) C dJ7_fill_53178_11 rfl rfl ?_
      refine g_iload_n (n := 13) C dJ7_fill_53178_12 rfl rfl ?_
      refine l_iast (n := 14) 0 (p) C dJ7_fill_53178_13 rfl A0 rfl rfl (i_lt (x := nI N) rfl zc7 hlep (by omega)) (by omega) ?_
      dsimp only [List.set]
      rw [flf_s]
      refine g_iinc (n := 17) C dJ7_fill_53178_14 rfl rfl rfl (by decide) ?_
      refine g_goto (t := 5) C dJ7_fill_53178_17 (by decide) ?_
      exact g_lv [0, 1, 2, 3] rfl (ihp (i_lt (x := nI N) rfl zc7 hlep (by omega)) _ (nI_1 p))
  exact g_lv [0, 1, 2, 3] rfl (lp 0 (Nat.zero_le _) _ rfl)
theorem dJ8_newLength_cabcc_0 : decode cJ8_newLength_cabcc 0 = .ok (.iload_n 0, 1) := by decide +kernel
theorem dJ8_newLength_cabcc_1 : decode cJ8_newLength_cabcc 1 = .ok (.iload_n 1, 1) := by decide +kernel
theorem dJ8_newLength_cabcc_2 : decode cJ8_newLength_cabcc 2 = .ok (.iload_n 2, 1) := by decide +kernel
theorem dJ8_newLength_cabcc_3 : decode cJ8_newLength_cabcc 3 = .ok (.invokestatic 194, 3) := by decide +kernel
theorem dJ8_newLength_cabcc_6 : decode cJ8_newLength_cabcc 6 = .ok (.iadd, 1) := by decide +kernel
theorem dJ8_newLength_cabcc_7 : decode cJ8_newLength_cabcc 7 = .ok (.istore_n 3, 1) := by decide +kernel
theorem dJ8_newLength_cabcc_8 : decode cJ8_newLength_cabcc 8 = .ok (.iconst 0, 1) := by decide +kernel
theorem dJ8_newLength_cabcc_9 : decode cJ8_newLength_cabcc 9 = .ok (.iload_n 3, 1) := by decide +kernel
theorem dJ8_newLength_cabcc_10 : decode cJ8_newLength_cabcc 10 = .ok (.if_icmp .ge 11, 3) := by decide +kernel
theorem dJ8_newLength_cabcc_13 : decode cJ8_newLength_cabcc 13 = .ok (.iload_n 3, 1) := by decide +kernel
theorem dJ8_newLength_cabcc_14 : decode cJ8_newLength_cabcc 14 = .ok (.ldc 200, 2) := by decide +kernel
theorem dJ8_newLength_cabcc_16 : decode cJ8_newLength_cabcc 16 = .ok (.if_icmp .gt 5, 3) := by decide +kernel
theorem dJ8_newLength_cabcc_19 : decode cJ8_newLength_cabcc 19 = .ok (.iload_n 3, 1) := by decide +kernel
theorem dJ8_newLength_cabcc_20 : decode cJ8_newLength_cabcc 20 = .ok (.ireturn, 1) := by decide +kernel
set_option maxHeartbeats 400000 in
set_option maxRecDepth 20000 in
theorem ct_newLen {l : Launch} {E : Ev} {P : Value → AH → Prop}  {h : AH} {N : Nat} (hN : N ≤ 60) (hp : P (.int (nI (nlen N))) h) : Mt l E yJ8_newLength_cabcc cJ8_newLength_cabcc 4 (some .int) 1 21 0 0 [.int (nI N), .int 1, .int (nI (N / 2))] (h) P := by
  refine Mt.of (by decide) (Nat.le_of_ble_eq_true rfl) ?_
  intro K hK hR C
  refine g_iload_n (n := 1) C dJ8_newLength_cabcc_0 rfl rfl ?_
  refine g_iload_n (n := 2) C dJ8_newLength_cabcc_1 rfl rfl ?_
  refine g_iload_n (n := 3) C dJ8_newLength_cabcc_2 rfl rfl ?_
  refine g_max (n := 6) C dJ8_newLength_cabcc_3 rfl mwM_max w_795 (roomM hR rfl) ?_
  refine g_iadd (n := 7) C dJ8_newLength_cabcc_6 rfl ?_
  rw [nl_v N hN]
  refine g_istore_n (n := 8) C dJ8_newLength_cabcc_7 rfl (by decide) ?_
  refine g_iconst (n := 9) (v := 0) C dJ8_newLength_cabcc_8 rfl (by decide) ?_
  refine g_iload_n (n := 10) C dJ8_newLength_cabcc_9 rfl rfl ?_
  refine g_icmp_ge (n := 13) (t := 21) C dJ8_newLength_cabcc_10 rfl (by decide) (fun zc10 => ?_) (fun zc10 => ?_)
  · --t10
    first | exact absurd (nI_lt (a := 0) (b := nlen N) (by have := nl_le N hN; omega) (by have := nl_le N hN; omega)) (Int32.not_lt.mpr zc10) | exact absurd zc16 (Int32.not_lt.mpr (nI_le (a := nlen N) (b := 2147483639) (by have := nl_le N hN; omega) (by decide)))
  · --f10
    refine g_iload_n (n := 14) C dJ8_newLength_cabcc_13 rfl rfl ?_
    refine g_ldc (n := 16) C dJ8_newLength_cabcc_14 rfl w_796 ?_
    refine g_icmp_gt (n := 19) (t := 21) C dJ8_newLength_cabcc_16 rfl (by decide) (fun zc16 => ?_) (fun zc16 => ?_)
    · --t16
      first | exact absurd (nI_lt (a := 0) (b := nlen N) (by have := nl_le N hN; omega) (by have := nl_le N hN; omega)) (Int32.not_lt.mpr zc10) | exact absurd zc16 (Int32.not_lt.mpr (nI_le (a := nlen N) (b := 2147483639) (by have := nl_le N hN; omega) (by decide)))
    · --f16
      refine g_iload_n (n := 20) C dJ8_newLength_cabcc_19 rfl rfl ?_
      refine g_iret C dJ8_newLength_cabcc_20 (by decide) (by decide) ?_
      exact hp
theorem dJ7_copyOf_6403c_0 : decode cJ7_copyOf_6403c 0 = .ok (.aload_n 2, 1) := by decide +kernel
theorem dJ7_copyOf_6403c_1 : decode cJ7_copyOf_6403c 1 = .ok (.ldc 110, 2) := by decide +kernel
theorem dJ7_copyOf_6403c_3 : decode cJ7_copyOf_6403c 3 = .ok (.if_acmp .ne 10, 3) := by decide +kernel
theorem dJ7_copyOf_6403c_6 : decode cJ7_copyOf_6403c 6 = .ok (.iload_n 1, 1) := by decide +kernel
theorem dJ7_copyOf_6403c_7 : decode cJ7_copyOf_6403c 7 = .ok (.anewarray 2, 3) := by decide +kernel
theorem dJ7_copyOf_6403c_10 : decode cJ7_copyOf_6403c 10 = .ok (.goto 14, 3) := by decide +kernel
theorem dJ7_copyOf_6403c_24 : decode cJ7_copyOf_6403c 24 = .ok (.astore_n 3, 1) := by decide +kernel
theorem dJ7_copyOf_6403c_25 : decode cJ7_copyOf_6403c 25 = .ok (.aload_n 0, 1) := by decide +kernel
theorem dJ7_copyOf_6403c_26 : decode cJ7_copyOf_6403c 26 = .ok (.iconst 0, 1) := by decide +kernel
theorem dJ7_copyOf_6403c_27 : decode cJ7_copyOf_6403c 27 = .ok (.aload_n 3, 1) := by decide +kernel
theorem dJ7_copyOf_6403c_28 : decode cJ7_copyOf_6403c 28 = .ok (.iconst 0, 1) := by decide +kernel
theorem dJ7_copyOf_6403c_29 : decode cJ7_copyOf_6403c 29 = .ok (.aload_n 0, 1) := by decide +kernel
theorem dJ7_copyOf_6403c_30 : decode cJ7_copyOf_6403c 30 = .ok (.arraylength, 1) := by decide +kernel
theorem dJ7_copyOf_6403c_31 : decode cJ7_copyOf_6403c 31 = .ok (.iload_n 1, 1) := by decide +kernel
theorem dJ7_copyOf_6403c_32 : decode cJ7_copyOf_6403c 32 = .ok (.invokestatic 304, 3) := by decide +kernel
theorem dJ7_copyOf_6403c_35 : decode cJ7_copyOf_6403c 35 = .ok (.invokestatic 150, 3) := by decide +kernel
theorem dJ7_copyOf_6403c_38 : decode cJ7_copyOf_6403c 38 = .ok (.aload_n 3, 1) := by decide +kernel
theorem dJ7_copyOf_6403c_39 : decode cJ7_copyOf_6403c 39 = .ok (.areturn, 1) := by decide +kernel
set_option maxHeartbeats 400000 in
set_option maxRecDepth 20000 in
theorem ct_copy3 {l : Launch} {E : Ev} {P : Value → AH → Prop}  {d N M : Nat} {f : Nat → Option Nat} {h : AH} (hd : h d = some (eQ E N f)) (hNM : N ≤ M) (hM : M ≤ 100) (hel : ∀ i y, i < N → f i = some y → isO h y) (hp : ∀ q, h q = none → P (.ref q) (hset h q (eQ E M (va_cpy f (fun _ => none) 0 0 N)))) : Mt l E yJ7_copyOf_6403c cJ7_copyOf_6403c 4 (some (.array (.object "java/lang/Object"))) 1 21 1 100 [.ref d, .int (nI M), .ref (E.2.2 11)] (h) P := by
  refine Mt.of (by decide) (Nat.le_of_ble_eq_true rfl) ?_
  intro K hK hR C
  refine g_aload_n (n := 1) C dJ7_copyOf_6403c_0 rfl rfl ?_
  refine g_ldcM (n := 3) C dJ7_copyOf_6403c_1 rfl w_827 ?_
  refine g_acmp_ne (n := 6) (t := 13) C dJ7_copyOf_6403c_3 rfl (by decide) (fun za3 => absurd rfl za3) (fun za3 => ?_)
  refine g_iload_n (n := 7) C dJ7_copyOf_6403c_6 rfl rfl ?_
  refine g_newq (n := 10) (N := M) C dJ7_copyOf_6403c_7 rfl w_829 (Int32.not_lt.mpr (nI_le (a := 0) (Nat.zero_le _) (by omega))) (nI_clamp (by omega)) (by omega) (roomC hR rfl) (by rw [hR]; show 0 + M ≤ 100; omega) ?_
  intro q hq hqE
  refine g_wide (c' := 1) (s' := 100) (by omega) (by omega) ?_
  have hdq : d ≠ q := fun z => by rw [z, hq] at hd; cases hd
  have hd2 : hset h q (eQ E M (fun _ => none)) d = some (eQ E N f) := (hset_ne _ _ hdq).trans hd
  refine g_goto (t := 24) C dJ7_copyOf_6403c_10 (by decide) ?_
  refine g_astore_n (n := 25) C dJ7_copyOf_6403c_24 rfl (by decide) ?_
  refine g_aload_n (n := 26) C dJ7_copyOf_6403c_25 rfl rfl ?_
  refine g_iconst (n := 27) (v := 0) C dJ7_copyOf_6403c_26 rfl (by decide) ?_
  refine g_aload_n (n := 28) C dJ7_copyOf_6403c_27 rfl rfl ?_
  refine g_iconst (n := 29) (v := 0) C dJ7_copyOf_6403c_28 rfl (by decide) ?_
  refine g_aload_n (n := 30) C dJ7_copyOf_6403c_29 rfl rfl ?_
  refine g_alen (n := 31) (v := nI N) C 3 dJ7_copyOf_6403c_30 rfl hd2 rfl rfl ?_
  refine g_iload_n (n := 32) C dJ7_copyOf_6403c_31 rfl rfl ?_
  refine g_min (n := 35) C dJ7_copyOf_6403c_32 rfl mwM_min w_830 (roomM hR rfl) ?_
  rw [if_neg (Int32.not_lt.mpr (nI_le hNM (by omega)))]
  refine g_copy (n := 38) C dJ7_copyOf_6403c_35 rfl w_831 w_833 w_832 w_62 hd2 (hset_same _ _ _) (by decide) (by decide) (Int32.not_lt.mpr (nI_le (a := 0) (Nat.zero_le _) (by omega))) (by rw [nI_clamp (by omega)]; show 0 + N ≤ N; omega) (by rw [nI_clamp (by omega)]; show 0 + N ≤ M; omega) ?_ (roomF hR rfl) (by rw [hR]; decide) ?_
  · intro i hi y hy
    rw [nI_clamp (by omega)] at hi
    obtain ⟨ci, vs, r, y1, y2, y3⟩ := hel i y hi (by rw [← hy]; exact congrArg f (by show i = 0 + i; omega))
    exact ⟨ci, vs, r, (hset_ne _ _ (fun z => by rw [z, hq] at y1; cases y1)).trans y1, y2, y3⟩
  rw [nI_clamp (by omega), hset_hset]
  refine g_aload_n (n := 39) C dJ7_copyOf_6403c_38 rfl rfl ?_
  refine g_aret C dJ7_copyOf_6403c_39 (by first | exact Or.inl ⟨_, rfl⟩ | exact Or.inr ⟨_, rfl⟩) (by decide) (by decide) ?_
  exact hp q hq
theorem dJ7_copyOf_1904c_0 : decode cJ7_copyOf_1904c 0 = .ok (.aload_n 0, 1) := by decide +kernel
theorem dJ7_copyOf_1904c_1 : decode cJ7_copyOf_1904c 1 = .ok (.iload_n 1, 1) := by decide +kernel
theorem dJ7_copyOf_1904c_2 : decode cJ7_copyOf_1904c 2 = .ok (.aload_n 0, 1) := by decide +kernel
theorem dJ7_copyOf_1904c_3 : decode cJ7_copyOf_1904c 3 = .ok (.invokevirtual 86, 3) := by decide +kernel
theorem dJ7_copyOf_1904c_6 : decode cJ7_copyOf_1904c 6 = .ok (.invokestatic 300, 3) := by decide +kernel
theorem dJ7_copyOf_1904c_9 : decode cJ7_copyOf_1904c 9 = .ok (.areturn, 1) := by decide +kernel
set_option maxHeartbeats 400000 in
set_option maxRecDepth 20000 in
theorem ct_copy2 {l : Launch} {E : Ev} {P : Value → AH → Prop}  {d N M : Nat} {f : Nat → Option Nat} {h : AH} (hd : h d = some (eQ E N f)) (hNM : N ≤ M) (hM : M ≤ 100) (hel : ∀ i y, i < N → f i = some y → isO h y) (hp : ∀ q, h q = none → P (.ref q) (hset h q (eQ E M (va_cpy f (fun _ => none) 0 0 N)))) : Mt l E yJ7_copyOf_1904c cJ7_copyOf_1904c 2 (some (.array (.object "java/lang/Object"))) 2 44 1 100 [.ref d, .int (nI M)] (h) P := by
  refine Mt.of (by decide) (Nat.le_of_ble_eq_true rfl) ?_
  intro K hK hR C
  refine g_aload_n (n := 1) C dJ7_copyOf_1904c_0 rfl rfl ?_
  refine g_iload_n (n := 2) C dJ7_copyOf_1904c_1 rfl rfl ?_
  refine g_aload_n (n := 3) C dJ7_copyOf_1904c_2 rfl rfl ?_
  refine g_getC (n := 6) C dJ7_copyOf_1904c_3 rfl w_803 t_1422 w_1421 w_804 w_823 hd (roomF hR rfl) (by rw [hR]; exact Nat.le_of_ble_eq_true rfl) ?_
  refine g_callS (n := 9) (As := [.ref _, .int _, .ref _]) C dJ7_copyOf_1904c_6 rfl mw_J7_copyOf_6403c w_824 rfl rfl (room hR rfl) (ct_copy3 hd hNM hM hel (fun q hq => ?_))
  refine g_aret C dJ7_copyOf_1904c_9 (by first | exact Or.inl ⟨_, rfl⟩ | exact Or.inr ⟨_, rfl⟩) (by decide) (by decide) ?_
  exact hp q hq
