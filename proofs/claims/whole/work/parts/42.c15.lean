theorem dX7_begin_0 : decode cX7_begin 0 = .ok (.aload_n 0, 1) := by decide +kernel
theorem dX7_begin_1 : decode cX7_begin 1 = .ok (.iload_n 1, 1) := by decide +kernel
theorem dX7_begin_2 : decode cX7_begin 2 = .ok (.putfield 23, 3) := by decide +kernel
theorem dX7_begin_5 : decode cX7_begin 5 = .ok (.aload_n 0, 1) := by decide +kernel
theorem dX7_begin_6 : decode cX7_begin 6 = .ok (.iload_n 2, 1) := by decide +kernel
theorem dX7_begin_7 : decode cX7_begin 7 = .ok (.putfield 27, 3) := by decide +kernel
theorem dX7_begin_10 : decode cX7_begin 10 = .ok (.iconst 0, 1) := by decide +kernel
theorem dX7_begin_11 : decode cX7_begin 11 = .ok (.istore_n 3, 1) := by decide +kernel
theorem dX7_begin_12 : decode cX7_begin 12 = .ok (.iload_n 3, 1) := by decide +kernel
theorem dX7_begin_13 : decode cX7_begin 13 = .ok (.aload_n 0, 1) := by decide +kernel
theorem dX7_begin_14 : decode cX7_begin 14 = .ok (.getfield 9, 3) := by decide +kernel
theorem dX7_begin_17 : decode cX7_begin 17 = .ok (.arraylength, 1) := by decide +kernel
theorem dX7_begin_18 : decode cX7_begin 18 = .ok (.if_icmp .ge 16, 3) := by decide +kernel
theorem dX7_begin_21 : decode cX7_begin 21 = .ok (.aload_n 0, 1) := by decide +kernel
theorem dX7_begin_22 : decode cX7_begin 22 = .ok (.getfield 9, 3) := by decide +kernel
theorem dX7_begin_25 : decode cX7_begin 25 = .ok (.iload_n 3, 1) := by decide +kernel
theorem dX7_begin_26 : decode cX7_begin 26 = .ok (.iconst 0, 1) := by decide +kernel
theorem dX7_begin_27 : decode cX7_begin 27 = .ok (.bastore, 1) := by decide +kernel
theorem dX7_begin_28 : decode cX7_begin 28 = .ok (.iinc 3 1, 3) := by decide +kernel
theorem dX7_begin_31 : decode cX7_begin 31 = .ok (.goto (-19), 3) := by decide +kernel
theorem dX7_begin_34 : decode cX7_begin 34 = .ok (.aload_n 0, 1) := by decide +kernel
theorem dX7_begin_35 : decode cX7_begin 35 = .ok (.iconst 0, 1) := by decide +kernel
theorem dX7_begin_36 : decode cX7_begin 36 = .ok (.putfield 30, 3) := by decide +kernel
theorem dX7_begin_39 : decode cX7_begin 39 = .ok (.return_, 1) := by decide +kernel
set_option maxHeartbeats 1000000 in
set_option maxRecDepth 20000 in
theorem cc_begin {l : Launch} {E : Ev} {P : Value → AH → Prop}  {g fl cl wo fe : Nat} {wi hi z : Int32} {h : AH} (hg : h g = some (.inr (7, [.ref fl, .ref cl, .ref wo, .ref fe, .int wi, .int hi, .int z]))) {Z : Nat → Int32} (hf : h fl = some (.inl (E.2.2 2, 80, .inl Z))) (hgf : g ≠ fl) {w9 h9 : Int32} (hp : P .null (LW [(g, (.inr (7, [.ref fl, .ref cl, .ref wo, .ref fe, .int w9, .int h9, .int 0]))), (fl, .inl (E.2.2 2, 80, .inl (flf Z 0 80)))] h)) : Mt l E yX7_begin cX7_begin 4 none 0 0 0 0 [.ref g, .int w9, .int h9] (h) P := by
  refine Mt.of (by decide) (Nat.le_of_ble_eq_true rfl) ?_
  intro K hK hR C
  rw [LW_is2 hg hf]
  have A0 : lA [(g, ((.inr (7, [.ref fl, .ref cl, .ref wo, .ref fe, .int wi, .int hi, .int z])) : va_E)), (fl, .inl (E.2.2 2, 80, .inl Z))] := lA_two hgf
  refine g_aload_n (n := 1) C dX7_begin_0 rfl rfl ?_
  refine g_iload_n (n := 2) C dX7_begin_1 rfl rfl ?_
  refine l_put (n := 5) (T := TX7) (ty0 := tyX7) C 0 4 dX7_begin_2 rfl A0 rfl rfl (by decide) inX7 w_215 rfl tyX7_ok nmX7 rfl rfl rfl rfl (by show 4 < 7; decide) ?_
  dsimp only [List.set]
  refine g_aload_n (n := 6) C dX7_begin_5 rfl rfl ?_
  refine g_iload_n (n := 7) C dX7_begin_6 rfl rfl ?_
  refine l_put (n := 10) (T := TX7) (ty0 := tyX7) C 0 5 dX7_begin_7 rfl A0 rfl rfl (by decide) inX7 w_216 rfl tyX7_ok nmX7 rfl rfl rfl rfl (by show 5 < 7; decide) ?_
  dsimp only [List.set]
  rw [← flf_0 Z 0]
  refine g_iconst (n := 11) (v := 0) C dX7_begin_10 rfl (by decide) ?_
  refine g_istore_n (n := 12) C dX7_begin_11 rfl (by decide) ?_
  have lp : ∀ p : Nat, p ≤ 80 → ∀ (t9 : Int32), t9 = nI p → G K E 4 (QM K E none 0 0 P) 0 0 12 [(0, .ref g), (3, .int t9)] [] (LW [(g, (.inr (7, [.ref fl, .ref cl, .ref wo, .ref fe, .int w9, .int h9, .int z]))), (fl, .inl (E.2.2 2, 80, .inl (flf Z 0 p)))] h) := by
    refine loopN (fun p => ∀ (t9 : Int32), t9 = nI p → G K E 4 (QM K E none 0 0 P) 0 0 12 [(0, .ref g), (3, .int t9)] [] (LW [(g, (.inr (7, [.ref fl, .ref cl, .ref wo, .ref fe, .int w9, .int h9, .int z]))), (fl, .inl (E.2.2 2, 80, .inl (flf Z 0 p)))] h)) (80) ?_
    intro p hlep ihp t9 et
    subst et
    have A0 : lA [(g, ((.inr (7, [.ref fl, .ref cl, .ref wo, .ref fe, .int w9, .int h9, .int z])) : va_E)), (fl, .inl (E.2.2 2, 80, .inl (flf Z 0 p)))] := lA_two hgf
    refine g_iload_n (n := 13) C dX7_begin_12 rfl rfl ?_
    refine g_aload_n (n := 14) C dX7_begin_13 rfl rfl ?_
    refine l_get (n := 17) (T := TX7) C 0 0 dX7_begin_14 rfl A0 rfl rfl rfl (by decide) inX7 w_211 rfl ?_
    refine l_alen (n := 18) (v := 80) 1 2 C dX7_begin_17 rfl A0 rfl rfl rfl ?_
    refine g_icmp_ge (n := 21) (t := 34) C dX7_begin_18 rfl (by decide) (fun zc18 => ?_) (fun zc18 => ?_)
    · --t18
      refine g_aload_n (n := 35) C dX7_begin_34 rfl rfl ?_
      refine g_iconst (n := 36) (v := 0) C dX7_begin_35 rfl (by decide) ?_
      refine l_put (n := 39) (T := TX7) (ty0 := tyX7) C 0 6 dX7_begin_36 rfl A0 rfl rfl (by decide) inX7 w_217 rfl tyX7_ok nmX7 rfl rfl rfl rfl (by show 6 < 7; decide) ?_
      dsimp only [List.set]
      refine g_vret C dX7_begin_39 (by decide) (by decide) ?_
      have ep : p = 80 := i_eq (n := 80) rfl zc18 hlep (by decide)
      subst ep
      exact hp
    · --f18
      refine g_aload_n (n := 22) C dX7_begin_21 rfl rfl ?_
      refine l_get (n := 25) (T := TX7) C 0 0 dX7_begin_22 rfl A0 rfl rfl rfl (by decide) inX7 w_211 rfl ?_
      refine g_iload_n (n := 26) C dX7_begin_25 rfl rfl ?_
      refine g_iconst (n := 27) (v := 0) C dX7_begin_26 rfl (by decide) ?_
      refine l_zast (n := 28) 1 (p) C dX7_begin_27 rfl A0 rfl rfl (i_lt (n := 80) rfl zc18 hlep (by decide)) (by decide) (by rfl) ?_
      dsimp only [List.set]
      rw [flf_s]
      refine g_iinc (n := 31) C dX7_begin_28 rfl rfl rfl (by decide) ?_
      refine g_goto (t := 12) C dX7_begin_31 (by decide) ?_
      exact g_lv [0, 3] rfl (ihp (i_lt (n := 80) rfl zc18 hlep (by decide)) _ (nI_1 p))
  exact g_lv [0, 3] rfl (lp 0 (Nat.zero_le _) _ rfl)
