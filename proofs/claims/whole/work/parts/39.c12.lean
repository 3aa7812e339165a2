def crun (a b : Nat) : Nat := b * (b + 1) / 2 + a
/-- the place of the piece from left, top to right, bottom -/
def cpl (l t r b : Nat) : Nat := crun l r * 36 + crun t b
theorem crun_v : ∀ a, a < 10 → ∀ b, b < 10 → nI b * (nI b + 1) / 2 + nI a = nI (crun a b) := by decide +kernel
theorem crun_le : ∀ b, b < 10 → ∀ a, a ≤ b → crun a b < 55 := by decide +kernel
theorem crun_le8 : ∀ b, b < 8 → ∀ a, a ≤ b → crun a b < 36 := by decide +kernel
theorem cpl_lt {l t r b : Nat} (h1 : l ≤ r) (h2 : r < 10) (h3 : t ≤ b) (h4 : b < 8) : cpl l t r b < 1980 := by
  have := crun_le r h2 l h1
  have := crun_le8 b h4 t h3
  unfold cpl
  omega
theorem dX7_runOf_0 : decode cX7_runOf 0 = .ok (.iload_n 1, 1) := by decide +kernel
theorem dX7_runOf_1 : decode cX7_runOf 1 = .ok (.iload_n 1, 1) := by decide +kernel
theorem dX7_runOf_2 : decode cX7_runOf 2 = .ok (.iconst 1, 1) := by decide +kernel
theorem dX7_runOf_3 : decode cX7_runOf 3 = .ok (.iadd, 1) := by decide +kernel
theorem dX7_runOf_4 : decode cX7_runOf 4 = .ok (.imul, 1) := by decide +kernel
theorem dX7_runOf_5 : decode cX7_runOf 5 = .ok (.iconst 2, 1) := by decide +kernel
theorem dX7_runOf_6 : decode cX7_runOf 6 = .ok (.idiv, 1) := by decide +kernel
theorem dX7_runOf_7 : decode cX7_runOf 7 = .ok (.iload_n 0, 1) := by decide +kernel
theorem dX7_runOf_8 : decode cX7_runOf 8 = .ok (.iadd, 1) := by decide +kernel
theorem dX7_runOf_9 : decode cX7_runOf 9 = .ok (.ireturn, 1) := by decide +kernel
set_option maxHeartbeats 400000 in
set_option maxRecDepth 20000 in
theorem cc_runOf {l : Launch} {E : Ev} {P : Value → AH → Prop}  {a b : Nat} (ha : a < 10) (hb : b < 10) {h : AH} (hp : P (.int (nI (crun a b))) h) : Mt l E yX7_runOf cX7_runOf 2 (some .int) 0 0 0 0 [.int (nI a), .int (nI b)] (h) P := by
  refine Mt.of (by decide) (Nat.le_of_ble_eq_true rfl) ?_
  intro K hK hR C
  refine g_iload_n (n := 1) C dX7_runOf_0 rfl rfl ?_
  refine g_iload_n (n := 2) C dX7_runOf_1 rfl rfl ?_
  refine g_iconst (n := 3) (v := 1) C dX7_runOf_2 rfl (by decide) ?_
  refine g_iadd (n := 4) C dX7_runOf_3 rfl ?_
  refine g_imul (n := 5) C dX7_runOf_4 rfl ?_
  refine g_iconst (n := 6) (v := 2) C dX7_runOf_5 rfl (by decide) ?_
  refine g_idiv (n := 7) C dX7_runOf_6 rfl (by decide) ?_
  refine g_iload_n (n := 8) C dX7_runOf_7 rfl rfl ?_
  refine g_iadd (n := 9) C dX7_runOf_8 rfl ?_
  rw [crun_v a ha b hb]
  refine g_iret C dX7_runOf_9 (by decide) (by decide) ?_
  exact hp
theorem dX7_place_0 : decode cX7_place 0 = .ok (.iload_n 0, 1) := by decide +kernel
theorem dX7_place_1 : decode cX7_place 1 = .ok (.iload_n 2, 1) := by decide +kernel
theorem dX7_place_2 : decode cX7_place 2 = .ok (.invokestatic 53, 3) := by decide +kernel
theorem dX7_place_5 : decode cX7_place 5 = .ok (.bipush 36, 2) := by decide +kernel
theorem dX7_place_7 : decode cX7_place 7 = .ok (.imul, 1) := by decide +kernel
theorem dX7_place_8 : decode cX7_place 8 = .ok (.iload_n 1, 1) := by decide +kernel
theorem dX7_place_9 : decode cX7_place 9 = .ok (.iload_n 3, 1) := by decide +kernel
theorem dX7_place_10 : decode cX7_place 10 = .ok (.invokestatic 53, 3) := by decide +kernel
theorem dX7_place_13 : decode cX7_place 13 = .ok (.iadd, 1) := by decide +kernel
theorem dX7_place_14 : decode cX7_place 14 = .ok (.ireturn, 1) := by decide +kernel
set_option maxHeartbeats 400000 in
set_option maxRecDepth 20000 in
theorem cc_place {l : Launch} {E : Ev} {P : Value → AH → Prop}  {l9 t9 r9 b9 : Nat} (h1 : l9 < 10) (h2 : t9 < 10) (h3 : r9 < 10) (h4 : b9 < 10) {h : AH} (hp : P (.int (nI (cpl l9 t9 r9 b9))) h) : Mt l E yX7_place cX7_place 4 (some .int) 1 21 0 0 [.int (nI l9), .int (nI t9), .int (nI r9), .int (nI b9)] (h) P := by
  refine Mt.of (by decide) (Nat.le_of_ble_eq_true rfl) ?_
  intro K hK hR C
  refine g_iload_n (n := 1) C dX7_place_0 rfl rfl ?_
  refine g_iload_n (n := 2) C dX7_place_1 rfl rfl ?_
  refine g_callS (n := 5) (As := [.int _, .int _]) C dX7_place_2 rfl mw_X7_runOf w_345 rfl rfl (room hR rfl) (cc_runOf h1 h3 ?_)
  refine g_bipush (n := 7) (v := 36) C dX7_place_5 rfl (by decide) ?_
  refine g_imul (n := 8) C dX7_place_7 rfl ?_
  refine g_iload_n (n := 9) C dX7_place_8 rfl rfl ?_
  refine g_iload_n (n := 10) C dX7_place_9 rfl rfl ?_
  refine g_callS (n := 13) (As := [.int _, .int _]) C dX7_place_10 rfl mw_X7_runOf w_345 rfl rfl (room hR rfl) (cc_runOf h2 h4 ?_)
  refine g_iadd (n := 14) C dX7_place_13 rfl ?_
  rw [show nI (crun l9 r9) * 36 + nI (crun t9 b9) = nI (cpl l9 t9 r9 b9) from by unfold cpl; rw [show (36 : Int32) = nI 36 from rfl, pk_mul, nI_add]]
  refine g_iret C dX7_place_14 (by decide) (by decide) ?_
  exact hp
theorem dX7_hasCell_0 : decode cX7_hasCell 0 = .ok (.iload_n 1, 1) := by decide +kernel
theorem dX7_hasCell_1 : decode cX7_hasCell 1 = .ok (.ifCond .lt 27, 3) := by decide +kernel
theorem dX7_hasCell_4 : decode cX7_hasCell 4 = .ok (.iload_n 1, 1) := by decide +kernel
theorem dX7_hasCell_5 : decode cX7_hasCell 5 = .ok (.aload_n 0, 1) := by decide +kernel
theorem dX7_hasCell_6 : decode cX7_hasCell 6 = .ok (.getfield 23, 3) := by decide +kernel
theorem dX7_hasCell_9 : decode cX7_hasCell 9 = .ok (.if_icmp .ge 19, 3) := by decide +kernel
theorem dX7_hasCell_12 : decode cX7_hasCell 12 = .ok (.iload_n 2, 1) := by decide +kernel
theorem dX7_hasCell_13 : decode cX7_hasCell 13 = .ok (.ifCond .lt 15, 3) := by decide +kernel
theorem dX7_hasCell_16 : decode cX7_hasCell 16 = .ok (.iload_n 2, 1) := by decide +kernel
theorem dX7_hasCell_17 : decode cX7_hasCell 17 = .ok (.aload_n 0, 1) := by decide +kernel
theorem dX7_hasCell_18 : decode cX7_hasCell 18 = .ok (.getfield 27, 3) := by decide +kernel
theorem dX7_hasCell_21 : decode cX7_hasCell 21 = .ok (.if_icmp .ge 7, 3) := by decide +kernel
theorem dX7_hasCell_24 : decode cX7_hasCell 24 = .ok (.iconst 1, 1) := by decide +kernel
theorem dX7_hasCell_25 : decode cX7_hasCell 25 = .ok (.goto 4, 3) := by decide +kernel
theorem dX7_hasCell_28 : decode cX7_hasCell 28 = .ok (.iconst 0, 1) := by decide +kernel
theorem dX7_hasCell_29 : decode cX7_hasCell 29 = .ok (.ireturn, 1) := by decide +kernel
set_option maxHeartbeats 400000 in
set_option maxRecDepth 20000 in
theorem cc_hasCell {l : Launch} {E : Ev} {P : Value → AH → Prop}  {g fl cl wo fe : Nat} {wi hi z : Int32} {h : AH} (hg : h g = some (.inr (7, [.ref fl, .ref cl, .ref wo, .ref fe, .int wi, .int hi, .int z]))) {x y : Int32} (k1 : ¬ x < 0 → x < wi → ¬ y < 0 → y < hi → P (.int 1) h) (k0 : (x < 0 ∨ wi ≤ x) ∨ (y < 0 ∨ hi ≤ y) → P (.int 0) h) : Mt l E yX7_hasCell cX7_hasCell 3 (some .boolean) 0 0 0 0 [.ref g, .int x, .int y] (h) P := by
  refine Mt.of (by decide) (Nat.le_of_ble_eq_true rfl) ?_
  intro K hK hR C
  refine g_iload_n (n := 1) C dX7_hasCell_0 rfl rfl ?_
  refine g_if_lt (n := 4) (t := 28) C dX7_hasCell_1 rfl (by decide) (fun zc1 => ?_) (fun zc1 => ?_)
  · --t1
    refine g_iconst (n := 29) (v := 0) C dX7_hasCell_28 rfl (by decide) ?_
    refine g_zret C dX7_hasCell_29 (by decide) (by decide) (by rfl) ?_
    first | exact k0 (Or.inl (Or.inl zc1)) | exact k0 (Or.inl (Or.inr zc9)) | exact k0 (Or.inr (Or.inl zc13)) | exact k0 (Or.inr (Or.inr zc21))
  · --f1
    refine g_iload_n (n := 5) C dX7_hasCell_4 rfl rfl ?_
    refine g_aload_n (n := 6) C dX7_hasCell_5 rfl rfl ?_
    refine g_get (n := 9) (T := TX7) C 4 dX7_hasCell_6 rfl hg rfl rfl (by decide) inX7 w_215 rfl ?_
    refine g_icmp_ge (n := 12) (t := 28) C dX7_hasCell_9 rfl (by decide) (fun zc9 => ?_) (fun zc9 => ?_)
    · --t9
      refine g_iconst (n := 29) (v := 0) C dX7_hasCell_28 rfl (by decide) ?_
      refine g_zret C dX7_hasCell_29 (by decide) (by decide) (by rfl) ?_
      first | exact k0 (Or.inl (Or.inl zc1)) | exact k0 (Or.inl (Or.inr zc9)) | exact k0 (Or.inr (Or.inl zc13)) | exact k0 (Or.inr (Or.inr zc21))
    · --f9
      refine g_iload_n (n := 13) C dX7_hasCell_12 rfl rfl ?_
      refine g_if_lt (n := 16) (t := 28) C dX7_hasCell_13 rfl (by decide) (fun zc13 => ?_) (fun zc13 => ?_)
      · --t13
        refine g_iconst (n := 29) (v := 0) C dX7_hasCell_28 rfl (by decide) ?_
        refine g_zret C dX7_hasCell_29 (by decide) (by decide) (by rfl) ?_
        first | exact k0 (Or.inl (Or.inl zc1)) | exact k0 (Or.inl (Or.inr zc9)) | exact k0 (Or.inr (Or.inl zc13)) | exact k0 (Or.inr (Or.inr zc21))
      · --f13
        refine g_iload_n (n := 17) C dX7_hasCell_16 rfl rfl ?_
        refine g_aload_n (n := 18) C dX7_hasCell_17 rfl rfl ?_
        refine g_get (n := 21) (T := TX7) C 5 dX7_hasCell_18 rfl hg rfl rfl (by decide) inX7 w_216 rfl ?_
        refine g_icmp_ge (n := 24) (t := 28) C dX7_hasCell_21 rfl (by decide) (fun zc21 => ?_) (fun zc21 => ?_)
        · --t21
          refine g_iconst (n := 29) (v := 0) C dX7_hasCell_28 rfl (by decide) ?_
          refine g_zret C dX7_hasCell_29 (by decide) (by decide) (by rfl) ?_
          first | exact k0 (Or.inl (Or.inl zc1)) | exact k0 (Or.inl (Or.inr zc9)) | exact k0 (Or.inr (Or.inl zc13)) | exact k0 (Or.inr (Or.inr zc21))
        · --f21
          refine g_iconst (n := 25) (v := 1) C dX7_hasCell_24 rfl (by decide) ?_
          refine g_goto (t := 29) C dX7_hasCell_25 (by decide) ?_
          refine g_zret C dX7_hasCell_29 (by decide) (by decide) (by rfl) ?_
          exact k1 zc1 (Int32.not_le.mp zc9) zc13 (Int32.not_le.mp zc21)
theorem dX7_setFlaw_0 : decode cX7_setFlaw 0 = .ok (.iload_n 2, 1) := by decide +kernel
theorem dX7_setFlaw_1 : decode cX7_setFlaw 1 = .ok (.bipush 10, 2) := by decide +kernel
theorem dX7_setFlaw_3 : decode cX7_setFlaw 3 = .ok (.imul, 1) := by decide +kernel
theorem dX7_setFlaw_4 : decode cX7_setFlaw 4 = .ok (.iload_n 1, 1) := by decide +kernel
theorem dX7_setFlaw_5 : decode cX7_setFlaw 5 = .ok (.iadd, 1) := by decide +kernel
theorem dX7_setFlaw_6 : decode cX7_setFlaw 6 = .ok (.istore 4, 2) := by decide +kernel
theorem dX7_setFlaw_8 : decode cX7_setFlaw 8 = .ok (.aload_n 0, 1) := by decide +kernel
theorem dX7_setFlaw_9 : decode cX7_setFlaw 9 = .ok (.getfield 9, 3) := by decide +kernel
theorem dX7_setFlaw_12 : decode cX7_setFlaw 12 = .ok (.iload 4, 2) := by decide +kernel
theorem dX7_setFlaw_14 : decode cX7_setFlaw 14 = .ok (.baload, 1) := by decide +kernel
theorem dX7_setFlaw_15 : decode cX7_setFlaw 15 = .ok (.iload_n 3, 1) := by decide +kernel
theorem dX7_setFlaw_16 : decode cX7_setFlaw 16 = .ok (.if_icmp .ne 5, 3) := by decide +kernel
theorem dX7_setFlaw_19 : decode cX7_setFlaw 19 = .ok (.iconst 0, 1) := by decide +kernel
theorem dX7_setFlaw_20 : decode cX7_setFlaw 20 = .ok (.ireturn, 1) := by decide +kernel
theorem dX7_setFlaw_21 : decode cX7_setFlaw 21 = .ok (.aload_n 0, 1) := by decide +kernel
theorem dX7_setFlaw_22 : decode cX7_setFlaw 22 = .ok (.getfield 9, 3) := by decide +kernel
theorem dX7_setFlaw_25 : decode cX7_setFlaw 25 = .ok (.iload 4, 2) := by decide +kernel
theorem dX7_setFlaw_27 : decode cX7_setFlaw 27 = .ok (.iload_n 3, 1) := by decide +kernel
theorem dX7_setFlaw_28 : decode cX7_setFlaw 28 = .ok (.bastore, 1) := by decide +kernel
theorem dX7_setFlaw_29 : decode cX7_setFlaw 29 = .ok (.aload_n 0, 1) := by decide +kernel
theorem dX7_setFlaw_30 : decode cX7_setFlaw 30 = .ok (.iconst 0, 1) := by decide +kernel
theorem dX7_setFlaw_31 : decode cX7_setFlaw 31 = .ok (.putfield 30, 3) := by decide +kernel
theorem dX7_setFlaw_34 : decode cX7_setFlaw 34 = .ok (.iconst 1, 1) := by decide +kernel
theorem dX7_setFlaw_35 : decode cX7_setFlaw 35 = .ok (.ireturn, 1) := by decide +kernel
set_option maxHeartbeats 400000 in
set_option maxRecDepth 20000 in
theorem cc_setFlaw {l : Launch} {E : Ev} {P : Value → AH → Prop}  {g fl cl wo fe : Nat} {wi hi z : Int32} {h : AH} (hg : h g = some (.inr (7, [.ref fl, .ref cl, .ref wo, .ref fe, .int wi, .int hi, .int z]))) {Z : Nat → Int32} (hf : h fl = some (.inl (E.2.2 2, 80, .inl Z))) (hgf : g ≠ fl) {i j : Nat} (hi9 : i < 10) (hj9 : j < 8) {q : Int32} (hq : q = 0 ∨ q = 1) (k0 : Z (10 * j + i) = q → P (.int 0) h) (k1 : ¬ Z (10 * j + i) = q → P (.int 1) (LW [(g, (.inr (7, [.ref fl, .ref cl, .ref wo, .ref fe, .int wi, .int hi, .int 0]))), (fl, .inl (E.2.2 2, 80, .inl (upd Z (10 * j + i) q)))] h)) : Mt l E yX7_setFlaw cX7_setFlaw 5 (some .boolean) 0 0 0 0 [.ref g, .int (nI i), .int (nI j), .int q] (h) P := by
  refine Mt.of (by decide) (Nat.le_of_ble_eq_true rfl) ?_
  intro K hK hR C
  refine g_iload_n (n := 1) C dX7_setFlaw_0 rfl rfl ?_
  refine g_bipush (n := 3) (v := 10) C dX7_setFlaw_1 rfl (by decide) ?_
  refine g_imul (n := 4) C dX7_setFlaw_3 rfl ?_
  refine g_iload_n (n := 5) C dX7_setFlaw_4 rfl rfl ?_
  refine g_iadd (n := 6) C dX7_setFlaw_5 rfl ?_
  rw [show nI j * 10 + nI i = nI (10 * j + i) from by rw [show (10 : Int32) = nI 10 from rfl, pk_mul, nI_add, Nat.mul_comm]]
  refine g_istore (n := 8) C dX7_setFlaw_6 rfl (by decide) ?_
  refine g_aload_n (n := 9) C dX7_setFlaw_8 rfl rfl ?_
  refine g_get (n := 12) (T := TX7) C 0 dX7_setFlaw_9 rfl hg rfl rfl (by decide) inX7 w_211 rfl ?_
  refine g_iload (n := 14) C dX7_setFlaw_12 rfl rfl ?_
  refine f_zald (n := 15) (10 * j + i) C dX7_setFlaw_14 rfl hf rfl (by omega) (by decide) (rfl) ?_
  refine g_iload_n (n := 16) C dX7_setFlaw_15 rfl rfl ?_
  refine g_icmp_ne (n := 19) (t := 21) C dX7_setFlaw_16 rfl (by decide) (fun zc16 => ?_) (fun zc16 => ?_)
  · --t16
    rw [LW_is2 hg hf]
    have A0 : lA [(g, ((.inr (7, [.ref fl, .ref cl, .ref wo, .ref fe, .int wi, .int hi, .int z])) : va_E)), (fl, .inl (E.2.2 2, 80, .inl Z))] := lA_two hgf
    refine g_aload_n (n := 22) C dX7_setFlaw_21 rfl rfl ?_
    refine l_get (n := 25) (T := TX7) C 0 0 dX7_setFlaw_22 rfl A0 rfl rfl rfl (by decide) inX7 w_211 rfl ?_
    refine g_iload (n := 27) C dX7_setFlaw_25 rfl rfl ?_
    refine g_iload_n (n := 28) C dX7_setFlaw_27 rfl rfl ?_
    refine l_zast (n := 29) 1 (10 * j + i) C dX7_setFlaw_28 rfl A0 rfl rfl (by omega) (by decide) (by rcases hq with e | e <;> rw [e] <;> rfl) ?_
    dsimp only [List.set]
    refine g_aload_n (n := 30) C dX7_setFlaw_29 rfl rfl ?_
    refine g_iconst (n := 31) (v := 0) C dX7_setFlaw_30 rfl (by decide) ?_
    refine l_put (n := 34) (T := TX7) (ty0 := tyX7) C 0 6 dX7_setFlaw_31 rfl A0 rfl rfl (by decide) inX7 w_217 rfl tyX7_ok nmX7 rfl rfl rfl rfl (by show 6 < 7; decide) ?_
    dsimp only [List.set]
    refine g_iconst (n := 35) (v := 1) C dX7_setFlaw_34 rfl (by decide) ?_
    refine g_zret C dX7_setFlaw_35 (by decide) (by decide) (by rfl) ?_
    exact k1 zc16
  · --f16
    refine g_iconst (n := 20) (v := 0) C dX7_setFlaw_19 rfl (by decide) ?_
    refine g_zret C dX7_setFlaw_20 (by decide) (by decide) (by rfl) ?_
    exact k0 zc16
