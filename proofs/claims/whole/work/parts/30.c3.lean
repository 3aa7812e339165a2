theorem lnb {L : List (Nat × va_E)} {h : AH} {b : Nat} {e : va_E} (hl : h b = some e) (hb : b ∉ L.map Prod.fst) : LW L h b = some e := (LW_nb hb).trans hl
/-- the class reads bytes without a sign -/
abbrev cT (B : Nat → Int32) : Nat → Int32 := fun k => B k &&& 255
abbrev cbl (B : Nat → Int32) (n q : Nat) : Nat := rsc (cT B) 32 32 n q
theorem cc_tby {l : Launch} {E : Ev} {P : Value → AH → Prop} {t b : Nat} {len : Int32} {B : Nat → Int32} {h : AH} (he : h t = some (.inr (9, [.ref b, .int len]))) (hb : h b = some (.inl (E.2.2 0, 400, .inl B))) {n p : Nat} (hlen : len = nI n) (hn : n ≤ 400) (hpn : p < n) (hp : P (.int (B p &&& 255)) h) : Mt l E yX9_byteAt cX9_byteAt 2 (some .int) 0 0 0 0 [.ref t, .int (nI p)] h P :=
  cc_tbyte he hb hlen hn (by omega) (fun _ => hp) (fun z => absurd hpn (by omega))
theorem dX6_isLetter_0 : decode cX6_isLetter 0 = .ok (.iload_n 0, 1) := by decide +kernel
theorem dX6_isLetter_1 : decode cX6_isLetter 1 = .ok (.bipush 97, 2) := by decide +kernel
theorem dX6_isLetter_3 : decode cX6_isLetter 3 = .ok (.if_icmp .lt 13, 3) := by decide +kernel
theorem dX6_isLetter_6 : decode cX6_isLetter 6 = .ok (.iload_n 0, 1) := by decide +kernel
theorem dX6_isLetter_7 : decode cX6_isLetter 7 = .ok (.bipush 122, 2) := by decide +kernel
theorem dX6_isLetter_9 : decode cX6_isLetter 9 = .ok (.if_icmp .gt 7, 3) := by decide +kernel
theorem dX6_isLetter_12 : decode cX6_isLetter 12 = .ok (.iconst 1, 1) := by decide +kernel
theorem dX6_isLetter_13 : decode cX6_isLetter 13 = .ok (.goto 4, 3) := by decide +kernel
theorem dX6_isLetter_16 : decode cX6_isLetter 16 = .ok (.iconst 0, 1) := by decide +kernel
theorem dX6_isLetter_17 : decode cX6_isLetter 17 = .ok (.ireturn, 1) := by decide +kernel
set_option maxHeartbeats 400000 in
set_option maxRecDepth 20000 in
theorem cc_isLetter {l : Launch} {E : Ev} {P : Value → AH → Prop}  {h : AH} {x : Int32} (k1 : 97 ≤ x ∧ x ≤ 122 → P (.int 1) h) (k0 : ¬ (97 ≤ x ∧ x ≤ 122) → P (.int 0) h) : Mt l E yX6_isLetter cX6_isLetter 1 (some .boolean) 0 0 0 0 [.int x] (h) P := by
  refine Mt.of (by decide) (Nat.le_of_ble_eq_true rfl) ?_
  intro K hK hR C
  refine g_iload_n (n := 1) C dX6_isLetter_0 rfl rfl ?_
  refine g_bipush (n := 3) (v := 97) C dX6_isLetter_1 rfl (by decide) ?_
  refine g_icmp_lt (n := 6) (t := 16) C dX6_isLetter_3 rfl (by decide) (fun zc3 => ?_) (fun zc3 => ?_)
  · --t3
    refine g_iconst (n := 17) (v := 0) C dX6_isLetter_16 rfl (by decide) ?_
    refine g_zret C dX6_isLetter_17 (by decide) (by decide) (by rfl) ?_
    first | exact k0 (fun zq => Int32.not_le.mpr zc3 zq.1) | exact k0 (fun zq => Int32.not_le.mpr zc9 zq.2)
  · --f3
    refine g_iload_n (n := 7) C dX6_isLetter_6 rfl rfl ?_
    refine g_bipush (n := 9) (v := 122) C dX6_isLetter_7 rfl (by decide) ?_
    refine g_icmp_gt (n := 12) (t := 16) C dX6_isLetter_9 rfl (by decide) (fun zc9 => ?_) (fun zc9 => ?_)
    · --t9
      refine g_iconst (n := 17) (v := 0) C dX6_isLetter_16 rfl (by decide) ?_
      refine g_zret C dX6_isLetter_17 (by decide) (by decide) (by rfl) ?_
      first | exact k0 (fun zq => Int32.not_le.mpr zc3 zq.1) | exact k0 (fun zq => Int32.not_le.mpr zc9 zq.2)
    · --f9
      refine g_iconst (n := 13) (v := 1) C dX6_isLetter_12 rfl (by decide) ?_
      refine g_goto (t := 17) C dX6_isLetter_13 (by decide) ?_
      refine g_zret C dX6_isLetter_17 (by decide) (by decide) (by rfl) ?_
      exact k1 ⟨Int32.not_lt.mp zc3, Int32.not_lt.mp zc9⟩
theorem dX6_isDigit_0 : decode cX6_isDigit 0 = .ok (.iload_n 0, 1) := by decide +kernel
theorem dX6_isDigit_1 : decode cX6_isDigit 1 = .ok (.bipush 48, 2) := by decide +kernel
theorem dX6_isDigit_3 : decode cX6_isDigit 3 = .ok (.if_icmp .lt 13, 3) := by decide +kernel
theorem dX6_isDigit_6 : decode cX6_isDigit 6 = .ok (.iload_n 0, 1) := by decide +kernel
theorem dX6_isDigit_7 : decode cX6_isDigit 7 = .ok (.bipush 57, 2) := by decide +kernel
theorem dX6_isDigit_9 : decode cX6_isDigit 9 = .ok (.if_icmp .gt 7, 3) := by decide +kernel
theorem dX6_isDigit_12 : decode cX6_isDigit 12 = .ok (.iconst 1, 1) := by decide +kernel
theorem dX6_isDigit_13 : decode cX6_isDigit 13 = .ok (.goto 4, 3) := by decide +kernel
theorem dX6_isDigit_16 : decode cX6_isDigit 16 = .ok (.iconst 0, 1) := by decide +kernel
theorem dX6_isDigit_17 : decode cX6_isDigit 17 = .ok (.ireturn, 1) := by decide +kernel
set_option maxHeartbeats 400000 in
set_option maxRecDepth 20000 in
theorem cc_isDigit {l : Launch} {E : Ev} {P : Value → AH → Prop}  {h : AH} {x : Int32} (k1 : 48 ≤ x ∧ x ≤ 57 → P (.int 1) h) (k0 : ¬ (48 ≤ x ∧ x ≤ 57) → P (.int 0) h) : Mt l E yX6_isDigit cX6_isDigit 1 (some .boolean) 0 0 0 0 [.int x] (h) P := by
  refine Mt.of (by decide) (Nat.le_of_ble_eq_true rfl) ?_
  intro K hK hR C
  refine g_iload_n (n := 1) C dX6_isDigit_0 rfl rfl ?_
  refine g_bipush (n := 3) (v := 48) C dX6_isDigit_1 rfl (by decide) ?_
  refine g_icmp_lt (n := 6) (t := 16) C dX6_isDigit_3 rfl (by decide) (fun zc3 => ?_) (fun zc3 => ?_)
  · --t3
    refine g_iconst (n := 17) (v := 0) C dX6_isDigit_16 rfl (by decide) ?_
    refine g_zret C dX6_isDigit_17 (by decide) (by decide) (by rfl) ?_
    first | exact k0 (fun zq => Int32.not_le.mpr zc3 zq.1) | exact k0 (fun zq => Int32.not_le.mpr zc9 zq.2)
  · --f3
    refine g_iload_n (n := 7) C dX6_isDigit_6 rfl rfl ?_
    refine g_bipush (n := 9) (v := 57) C dX6_isDigit_7 rfl (by decide) ?_
    refine g_icmp_gt (n := 12) (t := 16) C dX6_isDigit_9 rfl (by decide) (fun zc9 => ?_) (fun zc9 => ?_)
    · --t9
      refine g_iconst (n := 17) (v := 0) C dX6_isDigit_16 rfl (by decide) ?_
      refine g_zret C dX6_isDigit_17 (by decide) (by decide) (by rfl) ?_
      first | exact k0 (fun zq => Int32.not_le.mpr zc3 zq.1) | exact k0 (fun zq => Int32.not_le.mpr zc9 zq.2)
    · --f9
      refine g_iconst (n := 13) (v := 1) C dX6_isDigit_12 rfl (by decide) ?_
      refine g_goto (t := 17) C dX6_isDigit_13 (by decide) ?_
      refine g_zret C dX6_isDigit_17 (by decide) (by decide) (by rfl) ?_
      exact k1 ⟨Int32.not_lt.mp zc3, Int32.not_lt.mp zc9⟩
theorem dX6_goOnFrom_0 : decode cX6_goOnFrom 0 = .ok (.aload_n 0, 1) := by decide +kernel
theorem dX6_goOnFrom_1 : decode cX6_goOnFrom 1 = .ok (.iload_n 1, 1) := by decide +kernel
theorem dX6_goOnFrom_2 : decode cX6_goOnFrom 2 = .ok (.putfield 23, 3) := by decide +kernel
theorem dX6_goOnFrom_5 : decode cX6_goOnFrom 5 = .ok (.aload_n 0, 1) := by decide +kernel
theorem dX6_goOnFrom_6 : decode cX6_goOnFrom 6 = .ok (.getfield 23, 3) := by decide +kernel
theorem dX6_goOnFrom_9 : decode cX6_goOnFrom 9 = .ok (.aload_n 0, 1) := by decide +kernel
theorem dX6_goOnFrom_10 : decode cX6_goOnFrom 10 = .ok (.getfield 9, 3) := by decide +kernel
theorem dX6_goOnFrom_13 : decode cX6_goOnFrom 13 = .ok (.invokevirtual 26, 3) := by decide +kernel
theorem dX6_goOnFrom_16 : decode cX6_goOnFrom 16 = .ok (.if_icmp .ge 32, 3) := by decide +kernel
theorem dX6_goOnFrom_19 : decode cX6_goOnFrom 19 = .ok (.aload_n 0, 1) := by decide +kernel
theorem dX6_goOnFrom_20 : decode cX6_goOnFrom 20 = .ok (.getfield 9, 3) := by decide +kernel
theorem dX6_goOnFrom_23 : decode cX6_goOnFrom 23 = .ok (.aload_n 0, 1) := by decide +kernel
theorem dX6_goOnFrom_24 : decode cX6_goOnFrom 24 = .ok (.getfield 23, 3) := by decide +kernel
theorem dX6_goOnFrom_27 : decode cX6_goOnFrom 27 = .ok (.invokevirtual 32, 3) := by decide +kernel
theorem dX6_goOnFrom_30 : decode cX6_goOnFrom 30 = .ok (.bipush 32, 2) := by decide +kernel
theorem dX6_goOnFrom_32 : decode cX6_goOnFrom 32 = .ok (.if_icmp .ne 16, 3) := by decide +kernel
theorem dX6_goOnFrom_35 : decode cX6_goOnFrom 35 = .ok (.aload_n 0, 1) := by decide +kernel
theorem dX6_goOnFrom_36 : decode cX6_goOnFrom 36 = .ok (.dup, 1) := by decide +kernel
theorem dX6_goOnFrom_37 : decode cX6_goOnFrom 37 = .ok (.getfield 23, 3) := by decide +kernel
theorem dX6_goOnFrom_40 : decode cX6_goOnFrom 40 = .ok (.iconst 1, 1) := by decide +kernel
theorem dX6_goOnFrom_41 : decode cX6_goOnFrom 41 = .ok (.iadd, 1) := by decide +kernel
theorem dX6_goOnFrom_42 : decode cX6_goOnFrom 42 = .ok (.putfield 23, 3) := by decide +kernel
theorem dX6_goOnFrom_45 : decode cX6_goOnFrom 45 = .ok (.goto (-40), 3) := by decide +kernel
theorem dX6_goOnFrom_48 : decode cX6_goOnFrom 48 = .ok (.return_, 1) := by decide +kernel
set_option maxHeartbeats 1000000 in
set_option maxRecDepth 20000 in
theorem cc_goOn {l : Launch} {E : Ev} {P : Value → AH → Prop}  {r t b n : Nat} {B : Nat → Int32} {ff : Int32} {h : AH} (ht : h t = some (.inr (9, [.ref b, .int (nI n)]))) (hb : h b = some (.inl (E.2.2 0, 400, .inl B))) (hn : n ≤ 400) (htr : t ∉ [r]) (hbr : b ∉ [r]) {p0 : Int32} {q : Nat} (hq : q ≤ n) (hp : P .null (LW [(r, .inr (6, [.ref t, .int (nI (cbl B n q)), .int ff]))] h)) : Mt l E yX6_goOnFrom cX6_goOnFrom 2 none 1 21 0 0 [.ref r, .int (nI q)] (LW [(r, .inr (6, [.ref t, .int p0, .int ff]))] h) P := by
  refine Mt.of (by decide) (Nat.le_of_ble_eq_true rfl) ?_
  intro K hK hR C
  have A0 : lA [(r, (.inr (6, [.ref t, .int p0, .int ff]) : va_E))] := lA_one _ _
  refine g_aload_n (n := 1) C dX6_goOnFrom_0 rfl rfl ?_
  refine g_iload_n (n := 2) C dX6_goOnFrom_1 rfl rfl ?_
  refine l_put (n := 5) (T := TX6) (ty0 := tyX6) C 0 1 dX6_goOnFrom_2 rfl A0 rfl rfl (by decide) inX6 w_539 rfl tyX6_ok nmX6 rfl rfl rfl rfl (by show 1 < 3; decide) ?_
  dsimp only [List.set]
  have lp : ∀ p : Nat, p ≤ n → ∀ (_ : True), cbl B n p = cbl B n q → G K E 2 (QM K E none 0 0 P) 0 0 5 [(0, .ref r)] [] (LW [(r, .inr (6, [.ref t, .int (nI p), .int ff]))] h) := by
    refine loopN (fun p => ∀ (_ : True), cbl B n p = cbl B n q → G K E 2 (QM K E none 0 0 P) 0 0 5 [(0, .ref r)] [] (LW [(r, .inr (6, [.ref t, .int (nI p), .int ff]))] h)) (n) ?_
    intro p hlep ihp _ er
    have A0 : lA [(r, (.inr (6, [.ref t, .int (nI p), .int ff]) : va_E))] := lA_one _ _
    refine g_aload_n (n := 6) C dX6_goOnFrom_5 rfl rfl ?_
    refine l_get (n := 9) (T := TX6) C 0 1 dX6_goOnFrom_6 rfl A0 rfl rfl rfl (by decide) inX6 w_539 rfl ?_
    refine g_aload_n (n := 10) C dX6_goOnFrom_9 rfl rfl ?_
    refine l_get (n := 13) (T := TX6) C 0 0 dX6_goOnFrom_10 rfl A0 rfl rfl rfl (by decide) inX6 w_538 rfl ?_
    refine g_callV (n := 16) (As := []) C dX6_goOnFrom_13 rfl mw_X9_length w_533 (g_recv C (lnb ht (by exact htr)) rfl) rfl rfl (room hR rfl) (cc_tlen (lnb ht (by exact htr)) ?_)
    refine g_icmp_ge (n := 19) (t := 48) C dX6_goOnFrom_16 rfl (by decide) (fun zc16 => ?_) (fun zc16 => ?_)
    · --t16
      refine g_vret C dX6_goOnFrom_48 (by decide) (by decide) ?_
      have ep : p = cbl B n q := (rsc_0 (T := cT B) (fun zq => by first | exact absurd zq.1 (by omega) | (have := i_eq (x := nI n) rfl zc16 hlep (by omega); have := zq.1; omega) | exact zc32 (Int32.le_antisymm zq.2.2 zq.2.1))).symm.trans er
      rw [← ep] at hp
      exact hp
    · --f16
      refine g_aload_n (n := 20) C dX6_goOnFrom_19 rfl rfl ?_
      refine l_get (n := 23) (T := TX6) C 0 0 dX6_goOnFrom_20 rfl A0 rfl rfl rfl (by decide) inX6 w_538 rfl ?_
      refine g_aload_n (n := 24) C dX6_goOnFrom_23 rfl rfl ?_
      refine l_get (n := 27) (T := TX6) C 0 1 dX6_goOnFrom_24 rfl A0 rfl rfl rfl (by decide) inX6 w_539 rfl ?_
      refine g_callV (n := 30) (As := [.int _]) C dX6_goOnFrom_27 rfl mw_X9_byteAt w_534 (g_recv C (lnb ht (by exact htr)) rfl) rfl rfl (room hR rfl) (cc_tbyte (lnb ht (by exact htr)) (lnb hb (by exact hbr)) (p := p) rfl hn (by omega) (fun za27 => ?_) (fun zb27 => ?_))
      · --k27.0
        refine g_bipush (n := 32) (v := 32) C dX6_goOnFrom_30 rfl (by decide) ?_
        refine g_icmp_ne (n := 35) (t := 48) C dX6_goOnFrom_32 rfl (by decide) (fun zc32 => ?_) (fun zc32 => ?_)
        · --t32
          refine g_vret C dX6_goOnFrom_48 (by decide) (by decide) ?_
          have ep : p = cbl B n q := (rsc_0 (T := cT B) (fun zq => by first | exact absurd zq.1 (by omega) | (have := i_eq (x := nI n) rfl zc16 hlep (by omega); have := zq.1; omega) | exact zc32 (Int32.le_antisymm zq.2.2 zq.2.1))).symm.trans er
          rw [← ep] at hp
          exact hp
        · --f32
          refine g_aload_n (n := 36) C dX6_goOnFrom_35 rfl rfl ?_
          refine g_dup (n := 37) C dX6_goOnFrom_36 rfl rfl ?_
          refine l_get (n := 40) (T := TX6) C 0 1 dX6_goOnFrom_37 rfl A0 rfl rfl rfl (by decide) inX6 w_539 rfl ?_
          refine g_iconst (n := 41) (v := 1) C dX6_goOnFrom_40 rfl (by decide) ?_
          refine g_iadd (n := 42) C dX6_goOnFrom_41 rfl ?_
          rw [nI_1 p]
          refine l_put (n := 45) (T := TX6) (ty0 := tyX6) C 0 1 dX6_goOnFrom_42 rfl A0 rfl rfl (by decide) inX6 w_539 rfl tyX6_ok nmX6 rfl rfl rfl rfl (by show 1 < 3; decide) ?_
          dsimp only [List.set]
          refine g_goto (t := 5) C dX6_goOnFrom_45 (by decide) ?_
          exact g_lv [0] rfl (ihp (i_lt (x := nI n) rfl zc16 hlep (by omega)) .intro ((rsc_s (T := cT B) ⟨(i_lt (x := nI n) rfl zc16 hlep (by omega)), (by rw [show cT B p = 32 from zc32]; exact Int32.le_refl _), (by rw [show cT B p = 32 from zc32]; exact Int32.le_refl _)⟩).symm.trans er))
      · --k27.1
        refine g_bipush (n := 32) (v := 32) C dX6_goOnFrom_30 rfl (by decide) ?_
        refine g_icmp_ne (n := 35) (t := 48) C dX6_goOnFrom_32 rfl (by decide) (fun zc32 => ?_) (fun zc32 => ?_)
        rotate_left
        · exact absurd zc32 (by decide)
        refine g_vret C dX6_goOnFrom_48 (by decide) (by decide) ?_
        have ep : p = cbl B n q := (rsc_0 (T := cT B) (fun zq => by first | exact absurd zq.1 (by omega) | (have := i_eq (x := nI n) rfl zc16 hlep (by omega); have := zq.1; omega) | exact zc32 (Int32.le_antisymm zq.2.2 zq.2.1))).symm.trans er
        rw [← ep] at hp
        exact hp
  exact g_lv [0] rfl (lp _ (hq) .intro rfl)
theorem dX6_firstFault_0 : decode cX6_firstFault 0 = .ok (.aload_n 0, 1) := by decide +kernel
theorem dX6_firstFault_1 : decode cX6_firstFault 1 = .ok (.getfield 15, 3) := by decide +kernel
theorem dX6_firstFault_4 : decode cX6_firstFault 4 = .ok (.ireturn, 1) := by decide +kernel
set_option maxHeartbeats 400000 in
set_option maxRecDepth 20000 in
theorem cc_ff {l : Launch} {E : Ev} {P : Value → AH → Prop}  {r t : Nat} {p ff : Int32} {h : AH} (he : h r = some (.inr (6, [.ref t, .int p, .int ff]))) (hp : P (.int ff) h) : Mt l E yX6_firstFault cX6_firstFault 1 (some .int) 0 0 0 0 [.ref r] (h) P := by
  refine Mt.of (by decide) (Nat.le_of_ble_eq_true rfl) ?_
  intro K hK hR C
  refine g_aload_n (n := 1) C dX6_firstFault_0 rfl rfl ?_
  refine g_get (n := 4) (T := TX6) C 2 dX6_firstFault_1 rfl he rfl rfl (by decide) inX6 w_540 rfl ?_
  refine g_iret C dX6_firstFault_4 (by decide) (by decide) ?_
  exact hp
/-- the first fault stays -/
def cff (ff p : Int32) : Int32 := if ff = -1 then p else ff
theorem dX6_refuse_0 : decode cX6_refuse 0 = .ok (.aload_n 0, 1) := by decide +kernel
theorem dX6_refuse_1 : decode cX6_refuse 1 = .ok (.getfield 15, 3) := by decide +kernel
theorem dX6_refuse_4 : decode cX6_refuse 4 = .ok (.iconst (-1), 1) := by decide +kernel
theorem dX6_refuse_5 : decode cX6_refuse 5 = .ok (.if_icmp .ne 11, 3) := by decide +kernel
theorem dX6_refuse_8 : decode cX6_refuse 8 = .ok (.aload_n 0, 1) := by decide +kernel
theorem dX6_refuse_9 : decode cX6_refuse 9 = .ok (.aload_n 0, 1) := by decide +kernel
theorem dX6_refuse_10 : decode cX6_refuse 10 = .ok (.getfield 23, 3) := by decide +kernel
theorem dX6_refuse_13 : decode cX6_refuse 13 = .ok (.putfield 15, 3) := by decide +kernel
theorem dX6_refuse_16 : decode cX6_refuse 16 = .ok (.return_, 1) := by decide +kernel
set_option maxHeartbeats 400000 in
set_option maxRecDepth 20000 in
theorem cc_refuse {l : Launch} {E : Ev} {P : Value → AH → Prop}  {r t : Nat} {p ff : Int32} {h : AH} (hp : P .null (LW [(r, .inr (6, [.ref t, .int p, .int (cff ff p)]))] h)) : Mt l E yX6_refuse cX6_refuse 1 none 0 0 0 0 [.ref r] (LW [(r, .inr (6, [.ref t, .int p, .int ff]))] h) P := by
  refine Mt.of (by decide) (Nat.le_of_ble_eq_true rfl) ?_
  intro K hK hR C
  have A0 : lA [(r, (.inr (6, [.ref t, .int p, .int ff]) : va_E))] := lA_one _ _
  refine g_aload_n (n := 1) C dX6_refuse_0 rfl rfl ?_
  refine l_get (n := 4) (T := TX6) C 0 2 dX6_refuse_1 rfl A0 rfl rfl rfl (by decide) inX6 w_540 rfl ?_
  refine g_iconst (n := 5) (v := (-1)) C dX6_refuse_4 rfl (by decide) ?_
  refine g_icmp_ne (n := 8) (t := 16) C dX6_refuse_5 rfl (by decide) (fun zc5 => ?_) (fun zc5 => ?_)
  · --t5
    refine g_vret C dX6_refuse_16 (by decide) (by decide) ?_
    first | (rw [cff, if_pos zc5] at hp; exact hp) | (rw [cff, if_neg zc5] at hp; exact hp)
  · --f5
    refine g_aload_n (n := 9) C dX6_refuse_8 rfl rfl ?_
    refine g_aload_n (n := 10) C dX6_refuse_9 rfl rfl ?_
    refine l_get (n := 13) (T := TX6) C 0 1 dX6_refuse_10 rfl A0 rfl rfl rfl (by decide) inX6 w_539 rfl ?_
    refine l_put (n := 16) (T := TX6) (ty0 := tyX6) C 0 2 dX6_refuse_13 rfl A0 rfl rfl (by decide) inX6 w_540 rfl tyX6_ok nmX6 rfl rfl rfl rfl (by show 2 < 3; decide) ?_
    dsimp only [List.set]
    refine g_vret C dX6_refuse_16 (by decide) (by decide) ?_
    first | (rw [cff, if_pos zc5] at hp; exact hp) | (rw [cff, if_neg zc5] at hp; exact hp)
theorem dX6_init_0 : decode cX6_init 0 = .ok (.aload_n 0, 1) := by decide +kernel
theorem dX6_init_1 : decode cX6_init 1 = .ok (.invokespecial 3, 3) := by decide +kernel
theorem dX6_init_4 : decode cX6_init 4 = .ok (.aload_n 0, 1) := by decide +kernel
theorem dX6_init_5 : decode cX6_init 5 = .ok (.aload_n 1, 1) := by decide +kernel
theorem dX6_init_6 : decode cX6_init 6 = .ok (.putfield 9, 3) := by decide +kernel
theorem dX6_init_9 : decode cX6_init 9 = .ok (.aload_n 0, 1) := by decide +kernel
theorem dX6_init_10 : decode cX6_init 10 = .ok (.iconst (-1), 1) := by decide +kernel
theorem dX6_init_11 : decode cX6_init 11 = .ok (.putfield 15, 3) := by decide +kernel
theorem dX6_init_14 : decode cX6_init 14 = .ok (.aload_n 0, 1) := by decide +kernel
theorem dX6_init_15 : decode cX6_init 15 = .ok (.iconst 0, 1) := by decide +kernel
theorem dX6_init_16 : decode cX6_init 16 = .ok (.invokevirtual 19, 3) := by decide +kernel
theorem dX6_init_19 : decode cX6_init 19 = .ok (.return_, 1) := by decide +kernel
set_option maxHeartbeats 400000 in
set_option maxRecDepth 20000 in
theorem cc_rinit {l : Launch} {E : Ev} {P : Value → AH → Prop}  {r t b n : Nat} {B : Nat → Int32} {h : AH} (ht : h t = some (.inr (9, [.ref b, .int (nI n)]))) (hb : h b = some (.inl (E.2.2 0, 400, .inl B))) (hn : n ≤ 400) (htr : t ∉ [r]) (hbr : b ∉ [r]) (hp : P .null (LW [(r, .inr (6, [.ref t, .int (nI (cbl B n 0)), .int (-1)]))] h)) : Mt l E yX6_init cX6_init 2 none 2 42 0 0 [.ref r, .ref t] (LW [(r, .inr (6, [.null, .int 0, .int 0]))] h) P := by
  refine Mt.of (by decide) (Nat.le_of_ble_eq_true rfl) ?_
  intro K hK hR C
  have A0 : lA [(r, (.inr (6, [.null, .int 0, .int 0]) : va_E))] := lA_one _ _
  refine g_aload_n (n := 1) C dX6_init_0 rfl rfl ?_
  refine g_objInit (n := 4) C dX6_init_1 rfl w_528 w_72 w_73 (roomF hR rfl) (roomL hR rfl) ?_
  refine g_aload_n (n := 5) C dX6_init_4 rfl rfl ?_
  refine g_aload_n (n := 6) C dX6_init_5 rfl rfl ?_
  refine l_putF (n := 9) (T := TX6) (ty0 := tyX6) C 0 0 dX6_init_6 rfl A0 rfl rfl (by decide) inX6 w_538 rfl tyX6_ok nmX6 rfl rfl rfl rfl rfl rfl (by show 0 < 3; decide) ?_
  dsimp only [List.set]
  refine g_aload_n (n := 10) C dX6_init_9 rfl rfl ?_
  refine g_iconst (n := 11) (v := (-1)) C dX6_init_10 rfl (by decide) ?_
  refine l_put (n := 14) (T := TX6) (ty0 := tyX6) C 0 2 dX6_init_11 rfl A0 rfl rfl (by decide) inX6 w_540 rfl tyX6_ok nmX6 rfl rfl rfl rfl (by show 2 < 3; decide) ?_
  dsimp only [List.set]
  refine g_aload_n (n := 15) C dX6_init_14 rfl rfl ?_
  refine g_iconst (n := 16) (v := 0) C dX6_init_15 rfl (by decide) ?_
  refine g_callV (n := 19) (As := [.int _]) C dX6_init_16 rfl mw_X6_goOnFrom w_529 (fun _ _ hH9 hS9 => g_recv (ci := 6) C (by refine LW_at ?_ 0 rfl; exact A0) rfl _ _ hH9 hS9) rfl rfl (room hR rfl) (cc_goOn ht hb hn htr hbr (q := 0) (Nat.zero_le _) ?_)
  refine g_vret C dX6_init_19 (by decide) (by decide) ?_
  exact hp
theorem dX6_takeSemicolon_0 : decode cX6_takeSemicolon 0 = .ok (.aload_n 0, 1) := by decide +kernel
theorem dX6_takeSemicolon_1 : decode cX6_takeSemicolon 1 = .ok (.getfield 9, 3) := by decide +kernel
theorem dX6_takeSemicolon_4 : decode cX6_takeSemicolon 4 = .ok (.aload_n 0, 1) := by decide +kernel
theorem dX6_takeSemicolon_5 : decode cX6_takeSemicolon 5 = .ok (.getfield 23, 3) := by decide +kernel
theorem dX6_takeSemicolon_8 : decode cX6_takeSemicolon 8 = .ok (.invokevirtual 32, 3) := by decide +kernel
theorem dX6_takeSemicolon_11 : decode cX6_takeSemicolon 11 = .ok (.bipush 59, 2) := by decide +kernel
theorem dX6_takeSemicolon_13 : decode cX6_takeSemicolon 13 = .ok (.if_icmp .eq 5, 3) := by decide +kernel
theorem dX6_takeSemicolon_16 : decode cX6_takeSemicolon 16 = .ok (.iconst 0, 1) := by decide +kernel
theorem dX6_takeSemicolon_17 : decode cX6_takeSemicolon 17 = .ok (.ireturn, 1) := by decide +kernel
theorem dX6_takeSemicolon_18 : decode cX6_takeSemicolon 18 = .ok (.aload_n 0, 1) := by decide +kernel
theorem dX6_takeSemicolon_19 : decode cX6_takeSemicolon 19 = .ok (.aload_n 0, 1) := by decide +kernel
theorem dX6_takeSemicolon_20 : decode cX6_takeSemicolon 20 = .ok (.getfield 23, 3) := by decide +kernel
theorem dX6_takeSemicolon_23 : decode cX6_takeSemicolon 23 = .ok (.iconst 1, 1) := by decide +kernel
theorem dX6_takeSemicolon_24 : decode cX6_takeSemicolon 24 = .ok (.iadd, 1) := by decide +kernel
theorem dX6_takeSemicolon_25 : decode cX6_takeSemicolon 25 = .ok (.invokevirtual 19, 3) := by decide +kernel
theorem dX6_takeSemicolon_28 : decode cX6_takeSemicolon 28 = .ok (.iconst 1, 1) := by decide +kernel
theorem dX6_takeSemicolon_29 : decode cX6_takeSemicolon 29 = .ok (.ireturn, 1) := by decide +kernel
set_option maxHeartbeats 400000 in
set_option maxRecDepth 20000 in
theorem cc_semi {l : Launch} {E : Ev} {P : Value → AH → Prop}  {r t b n : Nat} {B : Nat → Int32} {ff : Int32} {h : AH} (ht : h t = some (.inr (9, [.ref b, .int (nI n)]))) (hb : h b = some (.inl (E.2.2 0, 400, .inl B))) (hn : n ≤ 400) (htr : t ∉ [r]) (hbr : b ∉ [r]) {p : Nat} (hp4 : p ≤ n) (k1 : p < n → cT B p = 59 → P (.int 1) (LW [(r, .inr (6, [.ref t, .int (nI (cbl B n (p + 1))), .int ff]))] h)) (k0 : ¬ (p < n ∧ cT B p = 59) → P (.int 0) (LW [(r, .inr (6, [.ref t, .int (nI p), .int ff]))] h)) : Mt l E yX6_takeSemicolon cX6_takeSemicolon 1 (some .boolean) 2 42 0 0 [.ref r] (LW [(r, .inr (6, [.ref t, .int (nI p), .int ff]))] h) P := by
  refine Mt.of (by decide) (Nat.le_of_ble_eq_true rfl) ?_
  intro K hK hR C
  have A0 : lA [(r, (.inr (6, [.ref t, .int (nI p), .int ff]) : va_E))] := lA_one _ _
  refine g_aload_n (n := 1) C dX6_takeSemicolon_0 rfl rfl ?_
  refine l_get (n := 4) (T := TX6) C 0 0 dX6_takeSemicolon_1 rfl A0 rfl rfl rfl (by decide) inX6 w_538 rfl ?_
  refine g_aload_n (n := 5) C dX6_takeSemicolon_4 rfl rfl ?_
  refine l_get (n := 8) (T := TX6) C 0 1 dX6_takeSemicolon_5 rfl A0 rfl rfl rfl (by decide) inX6 w_539 rfl ?_
  refine g_callV (n := 11) (As := [.int _]) C dX6_takeSemicolon_8 rfl mw_X9_byteAt w_534 (g_recv C (lnb ht (by exact htr)) rfl) rfl rfl (room hR rfl) (cc_tbyte (lnb ht (by exact htr)) (lnb hb (by exact hbr)) (p := p) rfl hn (by omega) (fun za8 => ?_) (fun zb8 => ?_))
  · --k8.0
    refine g_bipush (n := 13) (v := 59) C dX6_takeSemicolon_11 rfl (by decide) ?_
    refine g_icmp_eq (n := 16) (t := 18) C dX6_takeSemicolon_13 rfl (by decide) (fun zc13 => ?_) (fun zc13 => ?_)
    · --t13
      refine g_aload_n (n := 19) C dX6_takeSemicolon_18 rfl rfl ?_
      refine g_aload_n (n := 20) C dX6_takeSemicolon_19 rfl rfl ?_
      refine l_get (n := 23) (T := TX6) C 0 1 dX6_takeSemicolon_20 rfl A0 rfl rfl rfl (by decide) inX6 w_539 rfl ?_
      refine g_iconst (n := 24) (v := 1) C dX6_takeSemicolon_23 rfl (by decide) ?_
      refine g_iadd (n := 25) C dX6_takeSemicolon_24 rfl ?_
      rw [nI_1 p]
      refine g_callV (n := 28) (As := [.int _]) C dX6_takeSemicolon_25 rfl mw_X6_goOnFrom w_529 (fun _ _ hH9 hS9 => g_recv (ci := 6) C (by refine LW_at ?_ 0 rfl; exact A0) rfl _ _ hH9 hS9) rfl rfl (room hR rfl) (cc_goOn ht hb hn htr hbr (q := (p + 1)) (by omega) ?_)
      refine g_iconst (n := 29) (v := 1) C dX6_takeSemicolon_28 rfl (by decide) ?_
      refine g_zret C dX6_takeSemicolon_29 (by decide) (by decide) (by rfl) ?_
      exact k1 za8 zc13
    · --f13
      refine g_iconst (n := 17) (v := 0) C dX6_takeSemicolon_16 rfl (by decide) ?_
      refine g_zret C dX6_takeSemicolon_17 (by decide) (by decide) (by rfl) ?_
      first | exact k0 (fun zq => absurd zq.1 (by omega)) | exact k0 (fun zq => zc13 zq.2)
  · --k8.1
    refine g_bipush (n := 13) (v := 59) C dX6_takeSemicolon_11 rfl (by decide) ?_
    refine g_icmp_eq (n := 16) (t := 18) C dX6_takeSemicolon_13 rfl (by decide) (fun zc13 => ?_) (fun zc13 => ?_)
    · exact absurd zc13 (by decide)
    refine g_iconst (n := 17) (v := 0) C dX6_takeSemicolon_16 rfl (by decide) ?_
    refine g_zret C dX6_takeSemicolon_17 (by decide) (by decide) (by rfl) ?_
    first | exact k0 (fun zq => absurd zq.1 (by omega)) | exact k0 (fun zq => zc13 zq.2)
theorem dX6_expectEnd_0 : decode cX6_expectEnd 0 = .ok (.aload_n 0, 1) := by decide +kernel
theorem dX6_expectEnd_1 : decode cX6_expectEnd 1 = .ok (.getfield 23, 3) := by decide +kernel
theorem dX6_expectEnd_4 : decode cX6_expectEnd 4 = .ok (.aload_n 0, 1) := by decide +kernel
theorem dX6_expectEnd_5 : decode cX6_expectEnd 5 = .ok (.getfield 9, 3) := by decide +kernel
theorem dX6_expectEnd_8 : decode cX6_expectEnd 8 = .ok (.invokevirtual 26, 3) := by decide +kernel
theorem dX6_expectEnd_11 : decode cX6_expectEnd 11 = .ok (.if_icmp .ge 7, 3) := by decide +kernel
theorem dX6_expectEnd_14 : decode cX6_expectEnd 14 = .ok (.aload_n 0, 1) := by decide +kernel
theorem dX6_expectEnd_15 : decode cX6_expectEnd 15 = .ok (.invokevirtual 51, 3) := by decide +kernel
theorem dX6_expectEnd_18 : decode cX6_expectEnd 18 = .ok (.return_, 1) := by decide +kernel
set_option maxHeartbeats 400000 in
set_option maxRecDepth 20000 in
theorem cc_xend {l : Launch} {E : Ev} {P : Value → AH → Prop}  {r t b n : Nat} {B : Nat → Int32} {ff : Int32} {h : AH} (ht : h t = some (.inr (9, [.ref b, .int (nI n)]))) (hb : h b = some (.inl (E.2.2 0, 400, .inl B))) (hn : n ≤ 400) (htr : t ∉ [r]) (hbr : b ∉ [r]) {p : Nat} (hp4 : p ≤ n) (k1 : p < n → P .null (LW [(r, .inr (6, [.ref t, .int (nI p), .int (cff ff (nI p))]))] h)) (k0 : p = n → P .null (LW [(r, .inr (6, [.ref t, .int (nI p), .int ff]))] h)) : Mt l E yX6_expectEnd cX6_expectEnd 1 none 1 20 0 0 [.ref r] (LW [(r, .inr (6, [.ref t, .int (nI p), .int ff]))] h) P := by
  refine Mt.of (by decide) (Nat.le_of_ble_eq_true rfl) ?_
  intro K hK hR C
  have A0 : lA [(r, (.inr (6, [.ref t, .int (nI p), .int ff]) : va_E))] := lA_one _ _
  refine g_aload_n (n := 1) C dX6_expectEnd_0 rfl rfl ?_
  refine l_get (n := 4) (T := TX6) C 0 1 dX6_expectEnd_1 rfl A0 rfl rfl rfl (by decide) inX6 w_539 rfl ?_
  refine g_aload_n (n := 5) C dX6_expectEnd_4 rfl rfl ?_
  refine l_get (n := 8) (T := TX6) C 0 0 dX6_expectEnd_5 rfl A0 rfl rfl rfl (by decide) inX6 w_538 rfl ?_
  refine g_callV (n := 11) (As := []) C dX6_expectEnd_8 rfl mw_X9_length w_533 (g_recv C (lnb ht (by exact htr)) rfl) rfl rfl (room hR rfl) (cc_tlen (lnb ht (by exact htr)) ?_)
  refine g_icmp_ge (n := 14) (t := 18) C dX6_expectEnd_11 rfl (by decide) (fun zc11 => ?_) (fun zc11 => ?_)
  · --t11
    refine g_vret C dX6_expectEnd_18 (by decide) (by decide) ?_
    first | exact k0 (i_eq (x := nI n) rfl zc11 hp4 (by omega)) | exact k1 (i_lt (x := nI n) rfl zc11 hp4 (by omega))
  · --f11
    refine g_aload_n (n := 15) C dX6_expectEnd_14 rfl rfl ?_
    refine g_callV (n := 18) (As := []) C dX6_expectEnd_15 rfl mw_X6_refuse w_620 (fun _ _ hH9 hS9 => g_recv (ci := 6) C (by refine LW_at ?_ 0 rfl; exact A0) rfl _ _ hH9 hS9) rfl rfl (room hR rfl) (cc_refuse ?_)
    refine g_vret C dX6_expectEnd_18 (by decide) (by decide) ?_
    first | exact k0 (i_eq (x := nI n) rfl zc11 hp4 (by omega)) | exact k1 (i_lt (x := nI n) rfl zc11 hp4 (by omega))
