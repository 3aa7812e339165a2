theorem dX1_init_0 : decode cX1_init 0 = .ok (.aload_n 0, 1) := by decide +kernel
theorem dX1_init_1 : decode cX1_init 1 = .ok (.invokespecial 3, 3) := by decide +kernel
theorem dX1_init_4 : decode cX1_init 4 = .ok (.return_, 1) := by decide +kernel
set_option maxHeartbeats 400000 in
set_option maxRecDepth 20000 in
theorem cc_clInit {l : Launch} {E : Ev} {P : Value → AH → Prop}  {a : Nat} {h : AH} (hp : P .null h) : Mt l E yX1_init cX1_init 1 none 1 20 0 0 [.ref a] (h) P := by
  refine Mt.of (by decide) (Nat.le_of_ble_eq_true rfl) ?_
  intro K hK hR C
  refine g_aload_n (n := 1) C dX1_init_0 rfl rfl ?_
  refine g_objInit (n := 4) C dX1_init_1 rfl w_128 w_72 w_73 (roomF hR rfl) (roomL hR rfl) ?_
  refine g_vret C dX1_init_4 (by decide) (by decide) ?_
  exact hp
theorem dX3_init_0 : decode cX3_init 0 = .ok (.aload_n 0, 1) := by decide +kernel
theorem dX3_init_1 : decode cX3_init 1 = .ok (.invokespecial 1, 3) := by decide +kernel
theorem dX3_init_4 : decode cX3_init 4 = .ok (.aload_n 0, 1) := by decide +kernel
theorem dX3_init_5 : decode cX3_init 5 = .ok (.iconst 0, 1) := by decide +kernel
theorem dX3_init_6 : decode cX3_init 6 = .ok (.putfield 7, 3) := by decide +kernel
theorem dX3_init_9 : decode cX3_init 9 = .ok (.aload_n 0, 1) := by decide +kernel
theorem dX3_init_10 : decode cX3_init 10 = .ok (.sipush 1000, 3) := by decide +kernel
theorem dX3_init_13 : decode cX3_init 13 = .ok (.putfield 13, 3) := by decide +kernel
theorem dX3_init_16 : decode cX3_init 16 = .ok (.aload_n 0, 1) := by decide +kernel
theorem dX3_init_17 : decode cX3_init 17 = .ok (.iconst 0, 1) := by decide +kernel
theorem dX3_init_18 : decode cX3_init 18 = .ok (.putfield 16, 3) := by decide +kernel
theorem dX3_init_21 : decode cX3_init 21 = .ok (.return_, 1) := by decide +kernel
set_option maxHeartbeats 400000 in
set_option maxRecDepth 20000 in
theorem cc_lawInit {l : Launch} {E : Ev} {P : Value → AH → Prop}  {a : Nat} {h : AH} (hp : P .null (LW [(a, .inr (3, [.int 0, .int 1000, .int 0]))] h)) : Mt l E yX3_init cX3_init 1 none 2 40 0 0 [.ref a] (LW [(a, .inr (3, [.int 0, .int 0, .int 0]))] h) P := by
  refine Mt.of (by decide) (Nat.le_of_ble_eq_true rfl) ?_
  intro K hK hR C
  have A0 : lA [(a, (.inr (3, [.int 0, .int 0, .int 0]) : va_E))] := lA_one _ _
  refine g_aload_n (n := 1) C dX3_init_0 rfl rfl ?_
  refine g_callIN (n := 4) (As := []) C dX3_init_1 rfl mw_X1_init t_125 rfl rfl (room hR rfl) (cc_clInit ?_)
  refine g_aload_n (n := 5) C dX3_init_4 rfl rfl ?_
  refine g_iconst (n := 6) (v := 0) C dX3_init_5 rfl (by decide) ?_
  refine l_put (n := 9) (T := TX3) (ty0 := tyX3) C 0 0 dX3_init_6 rfl A0 rfl rfl (by decide) inX3 w_129 rfl tyX3_ok nmX3 rfl rfl rfl rfl (by show 0 < 3; decide) ?_
  dsimp only [List.set]
  refine g_aload_n (n := 10) C dX3_init_9 rfl rfl ?_
  refine g_sipush (n := 13) (v := 1000) C dX3_init_10 rfl (by decide) ?_
  refine l_put (n := 16) (T := TX3) (ty0 := tyX3) C 0 1 dX3_init_13 rfl A0 rfl rfl (by decide) inX3 w_131 rfl tyX3_ok nmX3 rfl rfl rfl rfl (by show 1 < 3; decide) ?_
  dsimp only [List.set]
  refine g_aload_n (n := 17) C dX3_init_16 rfl rfl ?_
  refine g_iconst (n := 18) (v := 0) C dX3_init_17 rfl (by decide) ?_
  refine l_put (n := 21) (T := TX3) (ty0 := tyX3) C 0 2 dX3_init_18 rfl A0 rfl rfl (by decide) inX3 w_133 rfl tyX3_ok nmX3 rfl rfl rfl rfl (by show 2 < 3; decide) ?_
  dsimp only [List.set]
  refine g_vret C dX3_init_21 (by decide) (by decide) ?_
  exact hp
/-- a byte of a number that is fed to the class -/
def cby (x : Int32) (k : Int32) : Int32 := ((x.toUInt32 >>> (k.toUInt32 &&& Int32.toUInt32 31)).toInt32).toInt8.toInt32.toInt8.toInt32
theorem LW_none {L : List (Nat × va_E)} {h : AH} {q : Nat} (hq : LW L h q = none) : q ∉ L.map Prod.fst ∧ h q = none := by
  unfold LW at hq
  cases f : L.find? (fun z => z.1 == q) with
  | some z => rw [f] at hq; cases hq
  | none =>
    rw [f] at hq
    refine ⟨fun hm => ?_, hq⟩
    obtain ⟨z, hz, e⟩ := List.mem_map.mp hm
    have := List.find?_eq_none.mp f z hz
    exact this (by simpa using e)
theorem dX9_put_0 : decode cX9_put 0 = .ok (.bipush 24, 2) := by decide +kernel
theorem dX9_put_2 : decode cX9_put 2 = .ok (.istore_n 2, 1) := by decide +kernel
theorem dX9_put_3 : decode cX9_put 3 = .ok (.iload_n 2, 1) := by decide +kernel
theorem dX9_put_4 : decode cX9_put 4 = .ok (.ifCond .lt 42, 3) := by decide +kernel
theorem dX9_put_7 : decode cX9_put 7 = .ok (.aload_n 0, 1) := by decide +kernel
theorem dX9_put_8 : decode cX9_put 8 = .ok (.getfield 15, 3) := by decide +kernel
theorem dX9_put_11 : decode cX9_put 11 = .ok (.sipush 400, 3) := by decide +kernel
theorem dX9_put_14 : decode cX9_put 14 = .ok (.if_icmp .ge 26, 3) := by decide +kernel
theorem dX9_put_17 : decode cX9_put 17 = .ok (.aload_n 0, 1) := by decide +kernel
theorem dX9_put_18 : decode cX9_put 18 = .ok (.getfield 11, 3) := by decide +kernel
theorem dX9_put_21 : decode cX9_put 21 = .ok (.aload_n 0, 1) := by decide +kernel
theorem dX9_put_22 : decode cX9_put 22 = .ok (.getfield 15, 3) := by decide +kernel
theorem dX9_put_25 : decode cX9_put 25 = .ok (.iload_n 1, 1) := by decide +kernel
theorem dX9_put_26 : decode cX9_put 26 = .ok (.iload_n 2, 1) := by decide +kernel
theorem dX9_put_27 : decode cX9_put 27 = .ok (.iushr, 1) := by decide +kernel
theorem dX9_put_28 : decode cX9_put 28 = .ok (.i2b, 1) := by decide +kernel
theorem dX9_put_29 : decode cX9_put 29 = .ok (.bastore, 1) := by decide +kernel
theorem dX9_put_30 : decode cX9_put 30 = .ok (.aload_n 0, 1) := by decide +kernel
theorem dX9_put_31 : decode cX9_put 31 = .ok (.dup, 1) := by decide +kernel
theorem dX9_put_32 : decode cX9_put 32 = .ok (.getfield 15, 3) := by decide +kernel
theorem dX9_put_35 : decode cX9_put 35 = .ok (.iconst 1, 1) := by decide +kernel
theorem dX9_put_36 : decode cX9_put 36 = .ok (.iadd, 1) := by decide +kernel
theorem dX9_put_37 : decode cX9_put 37 = .ok (.putfield 15, 3) := by decide +kernel
theorem dX9_put_40 : decode cX9_put 40 = .ok (.iinc 2 (-8), 3) := by decide +kernel
theorem dX9_put_43 : decode cX9_put 43 = .ok (.goto (-40), 3) := by decide +kernel
theorem dX9_put_46 : decode cX9_put 46 = .ok (.return_, 1) := by decide +kernel
set_option maxHeartbeats 1000000 in
set_option maxRecDepth 20000 in
theorem cc_tput {l : Launch} {E : Ev} {P : Value → AH → Prop}  {t b n : Nat} {B : Nat → Int32} {x : Int32} {h : AH} (htb : t ≠ b) (hn : n + 4 ≤ 400) (hp : P .null (LW [(t, .inr (9, [.ref b, .int (nI (n + 4))])), (b, .inl (E.2.2 0, 400, .inl (upd (upd (upd (upd B n (cby x 24)) (n + 1) (cby x 16)) (n + 2) (cby x 8)) (n + 3) (cby x 0))))] h)) : Mt l E yX9_put cX9_put 3 none 0 0 0 0 [.ref t, .int x] (LW [(t, .inr (9, [.ref b, .int (nI n)])), (b, .inl (E.2.2 0, 400, .inl (B)))] h) P := by
  refine Mt.of (by decide) (Nat.le_of_ble_eq_true rfl) ?_
  intro K hK hR C
  have A0 : lA [(t, (.inr (9, [.ref b, .int (nI n)]) : va_E)), (b, .inl (E.2.2 0, 400, .inl B))] := lA_two htb
  refine g_bipush (n := 2) (v := 24) C dX9_put_0 rfl (by decide) ?_
  refine g_istore_n (n := 3) C dX9_put_2 rfl (by decide) ?_
  refine g_iload_n (n := 4) C dX9_put_3 rfl rfl ?_
  refine g_if_lt (n := 7) (t := 46) C dX9_put_4 rfl (by decide) (fun zc4 => ?_) (fun zc4 => ?_)
  · exact absurd zc4 (by decide)
  refine g_aload_n (n := 8) C dX9_put_7 rfl rfl ?_
  refine l_get (n := 11) (T := TX9) C 0 1 dX9_put_8 rfl A0 rfl rfl rfl (by decide) inX9 w_81 rfl ?_
  refine g_sipush (n := 14) (v := 400) C dX9_put_11 rfl (by decide) ?_
  refine g_icmp_ge (n := 17) (t := 40) C dX9_put_14 rfl (by decide) (fun zc14 => absurd zc14 (Int32.not_le.mpr (nI_lt (a := n + 0) (b := 400) (by omega) (by decide)))) (fun zc14 => ?_)
  clear zc14
  refine g_aload_n (n := 18) C dX9_put_17 rfl rfl ?_
  refine l_get (n := 21) (T := TX9) C 0 0 dX9_put_18 rfl A0 rfl rfl rfl (by decide) inX9 w_80 rfl ?_
  refine g_aload_n (n := 22) C dX9_put_21 rfl rfl ?_
  refine l_get (n := 25) (T := TX9) C 0 1 dX9_put_22 rfl A0 rfl rfl rfl (by decide) inX9 w_81 rfl ?_
  refine g_iload_n (n := 26) C dX9_put_25 rfl rfl ?_
  refine g_iload_n (n := 27) C dX9_put_26 rfl rfl ?_
  refine g_iushr (n := 28) C dX9_put_27 rfl ?_
  refine g_i2b (n := 29) C dX9_put_28 rfl ?_
  refine l_bast (n := 30) 1 (n) C dX9_put_29 rfl A0 rfl rfl (by omega) (by decide) ?_
  dsimp only [List.set]
  refine g_aload_n (n := 31) C dX9_put_30 rfl rfl ?_
  refine g_dup (n := 32) C dX9_put_31 rfl rfl ?_
  refine l_get (n := 35) (T := TX9) C 0 1 dX9_put_32 rfl A0 rfl rfl rfl (by decide) inX9 w_81 rfl ?_
  refine g_iconst (n := 36) (v := 1) C dX9_put_35 rfl (by decide) ?_
  refine g_iadd (n := 37) C dX9_put_36 rfl ?_
  rw [nI_1 n]
  refine l_put (n := 40) (T := TX9) (ty0 := tyX9) C 0 1 dX9_put_37 rfl A0 rfl rfl (by decide) inX9 w_81 rfl tyX9_ok nmX9 rfl rfl rfl rfl (by show 1 < 2; decide) ?_
  dsimp only [List.set]
  refine g_iinc (n := 43) (v := 16) C dX9_put_40 rfl rfl (by decide) (by decide) ?_
  refine g_goto (t := 3) C dX9_put_43 (by decide) ?_
  refine g_iload_n (n := 4) C dX9_put_3 rfl rfl ?_
  refine g_if_lt (n := 7) (t := 46) C dX9_put_4 rfl (by decide) (fun zc4 => ?_) (fun zc4 => ?_)
  · exact absurd zc4 (by decide)
  refine g_aload_n (n := 8) C dX9_put_7 rfl rfl ?_
  refine l_get (n := 11) (T := TX9) C 0 1 dX9_put_8 rfl A0 rfl rfl rfl (by decide) inX9 w_81 rfl ?_
  refine g_sipush (n := 14) (v := 400) C dX9_put_11 rfl (by decide) ?_
  refine g_icmp_ge (n := 17) (t := 40) C dX9_put_14 rfl (by decide) (fun zc14 => absurd zc14 (Int32.not_le.mpr (nI_lt (a := n + 1) (b := 400) (by omega) (by decide)))) (fun zc14 => ?_)
  clear zc14
  refine g_aload_n (n := 18) C dX9_put_17 rfl rfl ?_
  refine l_get (n := 21) (T := TX9) C 0 0 dX9_put_18 rfl A0 rfl rfl rfl (by decide) inX9 w_80 rfl ?_
  refine g_aload_n (n := 22) C dX9_put_21 rfl rfl ?_
  refine l_get (n := 25) (T := TX9) C 0 1 dX9_put_22 rfl A0 rfl rfl rfl (by decide) inX9 w_81 rfl ?_
  refine g_iload_n (n := 26) C dX9_put_25 rfl rfl ?_
  refine g_iload_n (n := 27) C dX9_put_26 rfl rfl ?_
  refine g_iushr (n := 28) C dX9_put_27 rfl ?_
  refine g_i2b (n := 29) C dX9_put_28 rfl ?_
  refine l_bast (n := 30) 1 (n + 1) C dX9_put_29 rfl A0 rfl rfl (by omega) (by decide) ?_
  dsimp only [List.set]
  refine g_aload_n (n := 31) C dX9_put_30 rfl rfl ?_
  refine g_dup (n := 32) C dX9_put_31 rfl rfl ?_
  refine l_get (n := 35) (T := TX9) C 0 1 dX9_put_32 rfl A0 rfl rfl rfl (by decide) inX9 w_81 rfl ?_
  refine g_iconst (n := 36) (v := 1) C dX9_put_35 rfl (by decide) ?_
  refine g_iadd (n := 37) C dX9_put_36 rfl ?_
  rw [show nI (n + 1) + 1 = nI (n + 2) from nI_1 (n + 1)]
  refine l_put (n := 40) (T := TX9) (ty0 := tyX9) C 0 1 dX9_put_37 rfl A0 rfl rfl (by decide) inX9 w_81 rfl tyX9_ok nmX9 rfl rfl rfl rfl (by show 1 < 2; decide) ?_
  dsimp only [List.set]
  refine g_iinc (n := 43) (v := 8) C dX9_put_40 rfl rfl (by decide) (by decide) ?_
  refine g_goto (t := 3) C dX9_put_43 (by decide) ?_
  refine g_iload_n (n := 4) C dX9_put_3 rfl rfl ?_
  refine g_if_lt (n := 7) (t := 46) C dX9_put_4 rfl (by decide) (fun zc4 => ?_) (fun zc4 => ?_)
  · exact absurd zc4 (by decide)
  refine g_aload_n (n := 8) C dX9_put_7 rfl rfl ?_
  refine l_get (n := 11) (T := TX9) C 0 1 dX9_put_8 rfl A0 rfl rfl rfl (by decide) inX9 w_81 rfl ?_
  refine g_sipush (n := 14) (v := 400) C dX9_put_11 rfl (by decide) ?_
  refine g_icmp_ge (n := 17) (t := 40) C dX9_put_14 rfl (by decide) (fun zc14 => absurd zc14 (Int32.not_le.mpr (nI_lt (a := n + 2) (b := 400) (by omega) (by decide)))) (fun zc14 => ?_)
  clear zc14
  refine g_aload_n (n := 18) C dX9_put_17 rfl rfl ?_
  refine l_get (n := 21) (T := TX9) C 0 0 dX9_put_18 rfl A0 rfl rfl rfl (by decide) inX9 w_80 rfl ?_
  refine g_aload_n (n := 22) C dX9_put_21 rfl rfl ?_
  refine l_get (n := 25) (T := TX9) C 0 1 dX9_put_22 rfl A0 rfl rfl rfl (by decide) inX9 w_81 rfl ?_
  refine g_iload_n (n := 26) C dX9_put_25 rfl rfl ?_
  refine g_iload_n (n := 27) C dX9_put_26 rfl rfl ?_
  refine g_iushr (n := 28) C dX9_put_27 rfl ?_
  refine g_i2b (n := 29) C dX9_put_28 rfl ?_
  refine l_bast (n := 30) 1 (n + 2) C dX9_put_29 rfl A0 rfl rfl (by omega) (by decide) ?_
  dsimp only [List.set]
  refine g_aload_n (n := 31) C dX9_put_30 rfl rfl ?_
  refine g_dup (n := 32) C dX9_put_31 rfl rfl ?_
  refine l_get (n := 35) (T := TX9) C 0 1 dX9_put_32 rfl A0 rfl rfl rfl (by decide) inX9 w_81 rfl ?_
  refine g_iconst (n := 36) (v := 1) C dX9_put_35 rfl (by decide) ?_
  refine g_iadd (n := 37) C dX9_put_36 rfl ?_
  rw [show nI (n + 2) + 1 = nI (n + 3) from nI_1 (n + 2)]
  refine l_put (n := 40) (T := TX9) (ty0 := tyX9) C 0 1 dX9_put_37 rfl A0 rfl rfl (by decide) inX9 w_81 rfl tyX9_ok nmX9 rfl rfl rfl rfl (by show 1 < 2; decide) ?_
  dsimp only [List.set]
  refine g_iinc (n := 43) (v := 0) C dX9_put_40 rfl rfl (by decide) (by decide) ?_
  refine g_goto (t := 3) C dX9_put_43 (by decide) ?_
  refine g_iload_n (n := 4) C dX9_put_3 rfl rfl ?_
  refine g_if_lt (n := 7) (t := 46) C dX9_put_4 rfl (by decide) (fun zc4 => ?_) (fun zc4 => ?_)
  · exact absurd zc4 (by decide)
  refine g_aload_n (n := 8) C dX9_put_7 rfl rfl ?_
  refine l_get (n := 11) (T := TX9) C 0 1 dX9_put_8 rfl A0 rfl rfl rfl (by decide) inX9 w_81 rfl ?_
  refine g_sipush (n := 14) (v := 400) C dX9_put_11 rfl (by decide) ?_
  refine g_icmp_ge (n := 17) (t := 40) C dX9_put_14 rfl (by decide) (fun zc14 => absurd zc14 (Int32.not_le.mpr (nI_lt (a := n + 3) (b := 400) (by omega) (by decide)))) (fun zc14 => ?_)
  clear zc14
  refine g_aload_n (n := 18) C dX9_put_17 rfl rfl ?_
  refine l_get (n := 21) (T := TX9) C 0 0 dX9_put_18 rfl A0 rfl rfl rfl (by decide) inX9 w_80 rfl ?_
  refine g_aload_n (n := 22) C dX9_put_21 rfl rfl ?_
  refine l_get (n := 25) (T := TX9) C 0 1 dX9_put_22 rfl A0 rfl rfl rfl (by decide) inX9 w_81 rfl ?_
  refine g_iload_n (n := 26) C dX9_put_25 rfl rfl ?_
  refine g_iload_n (n := 27) C dX9_put_26 rfl rfl ?_
  refine g_iushr (n := 28) C dX9_put_27 rfl ?_
  refine g_i2b (n := 29) C dX9_put_28 rfl ?_
  refine l_bast (n := 30) 1 (n + 3) C dX9_put_29 rfl A0 rfl rfl (by omega) (by decide) ?_
  dsimp only [List.set]
  refine g_aload_n (n := 31) C dX9_put_30 rfl rfl ?_
  refine g_dup (n := 32) C dX9_put_31 rfl rfl ?_
  refine l_get (n := 35) (T := TX9) C 0 1 dX9_put_32 rfl A0 rfl rfl rfl (by decide) inX9 w_81 rfl ?_
  refine g_iconst (n := 36) (v := 1) C dX9_put_35 rfl (by decide) ?_
  refine g_iadd (n := 37) C dX9_put_36 rfl ?_
  rw [show nI (n + 3) + 1 = nI (n + 4) from nI_1 (n + 3)]
  refine l_put (n := 40) (T := TX9) (ty0 := tyX9) C 0 1 dX9_put_37 rfl A0 rfl rfl (by decide) inX9 w_81 rfl tyX9_ok nmX9 rfl rfl rfl rfl (by show 1 < 2; decide) ?_
  dsimp only [List.set]
  refine g_iinc (n := 43) (v := (-8)) C dX9_put_40 rfl rfl (by decide) (by decide) ?_
  refine g_goto (t := 3) C dX9_put_43 (by decide) ?_
  refine g_iload_n (n := 4) C dX9_put_3 rfl rfl ?_
  refine g_if_lt (n := 7) (t := 46) C dX9_put_4 rfl (by decide) (fun zc4 => ?_) (fun zc4 => ?_)
  rotate_left
  · exact absurd zc4 (by decide)
  refine g_vret C dX9_put_46 (by decide) (by decide) ?_
  exact hp
theorem dX9_init_0 : decode cX9_init 0 = .ok (.aload_n 0, 1) := by decide +kernel
theorem dX9_init_1 : decode cX9_init 1 = .ok (.invokespecial 3, 3) := by decide +kernel
theorem dX9_init_4 : decode cX9_init 4 = .ok (.aload_n 0, 1) := by decide +kernel
theorem dX9_init_5 : decode cX9_init 5 = .ok (.sipush 400, 3) := by decide +kernel
theorem dX9_init_8 : decode cX9_init 8 = .ok (.newarray .byte, 2) := by decide +kernel
theorem dX9_init_10 : decode cX9_init 10 = .ok (.putfield 11, 3) := by decide +kernel
theorem dX9_init_13 : decode cX9_init 13 = .ok (.return_, 1) := by decide +kernel
set_option maxHeartbeats 400000 in
set_option maxRecDepth 20000 in
theorem cc_tinit {l : Launch} {E : Ev} {P : Value → AH → Prop}  {t : Nat} {h : AH} (hp : ∀ b, b ∉ [t] → h b = none → P .null (LW [(t, .inr (9, [.ref b, .int 0])), (b, .inl (E.2.2 0, 400, .inl (fun _ => 0)))] h)) : Mt l E yX9_init cX9_init 1 none 1 20 1 400 [.ref t] (LW [(t, .inr (9, [.null, .int 0]))] h) P := by
  refine Mt.of (by decide) (Nat.le_of_ble_eq_true rfl) ?_
  intro K hK hR C
  have A0 : lA [(t, (.inr (9, [.null, .int 0]) : va_E))] := lA_one _ _
  refine g_aload_n (n := 1) C dX9_init_0 rfl rfl ?_
  refine g_objInit (n := 4) C dX9_init_1 rfl w_79 w_72 w_73 (roomF hR rfl) (roomL hR rfl) ?_
  refine g_aload_n (n := 5) C dX9_init_4 rfl rfl ?_
  refine g_sipush (n := 8) (v := 400) C dX9_init_5 rfl (by decide) ?_
  refine g_newa (n := 10) C 0 (N := 400) (a0 := (400, .inl (fun _ => 0))) dX9_init_8 rfl rfl rfl (fun _ h => h) w_87 (fun _ => rfl) (by decide) (by decide) (by decide) (roomC hR rfl) (roomS hR rfl) ?_
  intro b zfb zeb
  have Ab := lA_new (e := .inl (E.2.2 0, 400, .inl (fun _ => 0))) A0 zfb
  have znb := LW_none zfb
  rw [LW_new zfb]
  dsimp only [List.cons_append, List.nil_append] at Ab ⊢
  refine l_putF (n := 13) (T := TX9) (ty0 := tyX9) C 0 0 dX9_init_10 rfl Ab rfl rfl (by decide) inX9 w_80 rfl tyX9_ok nmX9 rfl rfl rfl rfl rfl rfl (by show 0 < 2; decide) ?_
  dsimp only [List.set]
  refine g_vret C dX9_init_13 (by decide) (by decide) ?_
  exact hp b znb.1 znb.2
