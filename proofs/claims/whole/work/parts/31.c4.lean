theorem dX6_takeWord_0 : decode cX6_takeWord 0 = .ok (.aload_n 0, 1) := by decide +kernel
theorem dX6_takeWord_1 : decode cX6_takeWord 1 = .ok (.getfield 23, 3) := by decide +kernel
theorem dX6_takeWord_4 : decode cX6_takeWord 4 = .ok (.istore_n 2, 1) := by decide +kernel
theorem dX6_takeWord_5 : decode cX6_takeWord 5 = .ok (.iload_n 2, 1) := by decide +kernel
theorem dX6_takeWord_6 : decode cX6_takeWord 6 = .ok (.aload_n 0, 1) := by decide +kernel
theorem dX6_takeWord_7 : decode cX6_takeWord 7 = .ok (.getfield 9, 3) := by decide +kernel
theorem dX6_takeWord_10 : decode cX6_takeWord 10 = .ok (.invokevirtual 26, 3) := by decide +kernel
theorem dX6_takeWord_13 : decode cX6_takeWord 13 = .ok (.if_icmp .ge 23, 3) := by decide +kernel
theorem dX6_takeWord_16 : decode cX6_takeWord 16 = .ok (.aload_n 0, 1) := by decide +kernel
theorem dX6_takeWord_17 : decode cX6_takeWord 17 = .ok (.getfield 9, 3) := by decide +kernel
theorem dX6_takeWord_20 : decode cX6_takeWord 20 = .ok (.iload_n 2, 1) := by decide +kernel
theorem dX6_takeWord_21 : decode cX6_takeWord 21 = .ok (.invokevirtual 32, 3) := by decide +kernel
theorem dX6_takeWord_24 : decode cX6_takeWord 24 = .ok (.invokestatic 36, 3) := by decide +kernel
theorem dX6_takeWord_27 : decode cX6_takeWord 27 = .ok (.ifCond .eq 9, 3) := by decide +kernel
theorem dX6_takeWord_30 : decode cX6_takeWord 30 = .ok (.iinc 2 1, 3) := by decide +kernel
theorem dX6_takeWord_33 : decode cX6_takeWord 33 = .ok (.goto (-28), 3) := by decide +kernel
theorem dX6_takeWord_36 : decode cX6_takeWord 36 = .ok (.iload_n 2, 1) := by decide +kernel
theorem dX6_takeWord_37 : decode cX6_takeWord 37 = .ok (.aload_n 0, 1) := by decide +kernel
theorem dX6_takeWord_38 : decode cX6_takeWord 38 = .ok (.getfield 23, 3) := by decide +kernel
theorem dX6_takeWord_41 : decode cX6_takeWord 41 = .ok (.isub, 1) := by decide +kernel
theorem dX6_takeWord_42 : decode cX6_takeWord 42 = .ok (.aload_n 1, 1) := by decide +kernel
theorem dX6_takeWord_43 : decode cX6_takeWord 43 = .ok (.invokevirtual 40, 3) := by decide +kernel
theorem dX6_takeWord_46 : decode cX6_takeWord 46 = .ok (.if_icmp .eq 5, 3) := by decide +kernel
theorem dX6_takeWord_49 : decode cX6_takeWord 49 = .ok (.iconst 0, 1) := by decide +kernel
theorem dX6_takeWord_50 : decode cX6_takeWord 50 = .ok (.ireturn, 1) := by decide +kernel
theorem dX6_takeWord_51 : decode cX6_takeWord 51 = .ok (.iconst 0, 1) := by decide +kernel
theorem dX6_takeWord_52 : decode cX6_takeWord 52 = .ok (.istore_n 3, 1) := by decide +kernel
theorem dX6_takeWord_53 : decode cX6_takeWord 53 = .ok (.iload_n 3, 1) := by decide +kernel
theorem dX6_takeWord_54 : decode cX6_takeWord 54 = .ok (.aload_n 1, 1) := by decide +kernel
theorem dX6_takeWord_55 : decode cX6_takeWord 55 = .ok (.invokevirtual 40, 3) := by decide +kernel
theorem dX6_takeWord_58 : decode cX6_takeWord 58 = .ok (.if_icmp .ge 32, 3) := by decide +kernel
theorem dX6_takeWord_61 : decode cX6_takeWord 61 = .ok (.aload_n 0, 1) := by decide +kernel
theorem dX6_takeWord_62 : decode cX6_takeWord 62 = .ok (.getfield 9, 3) := by decide +kernel
theorem dX6_takeWord_65 : decode cX6_takeWord 65 = .ok (.aload_n 0, 1) := by decide +kernel
theorem dX6_takeWord_66 : decode cX6_takeWord 66 = .ok (.getfield 23, 3) := by decide +kernel
theorem dX6_takeWord_69 : decode cX6_takeWord 69 = .ok (.iload_n 3, 1) := by decide +kernel
theorem dX6_takeWord_70 : decode cX6_takeWord 70 = .ok (.iadd, 1) := by decide +kernel
theorem dX6_takeWord_71 : decode cX6_takeWord 71 = .ok (.invokevirtual 32, 3) := by decide +kernel
theorem dX6_takeWord_74 : decode cX6_takeWord 74 = .ok (.aload_n 1, 1) := by decide +kernel
theorem dX6_takeWord_75 : decode cX6_takeWord 75 = .ok (.iload_n 3, 1) := by decide +kernel
theorem dX6_takeWord_76 : decode cX6_takeWord 76 = .ok (.invokevirtual 43, 3) := by decide +kernel
theorem dX6_takeWord_79 : decode cX6_takeWord 79 = .ok (.if_icmp .eq 5, 3) := by decide +kernel
theorem dX6_takeWord_82 : decode cX6_takeWord 82 = .ok (.iconst 0, 1) := by decide +kernel
theorem dX6_takeWord_83 : decode cX6_takeWord 83 = .ok (.ireturn, 1) := by decide +kernel
theorem dX6_takeWord_84 : decode cX6_takeWord 84 = .ok (.iinc 3 1, 3) := by decide +kernel
theorem dX6_takeWord_87 : decode cX6_takeWord 87 = .ok (.goto (-34), 3) := by decide +kernel
theorem dX6_takeWord_90 : decode cX6_takeWord 90 = .ok (.aload_n 0, 1) := by decide +kernel
theorem dX6_takeWord_91 : decode cX6_takeWord 91 = .ok (.iload_n 2, 1) := by decide +kernel
theorem dX6_takeWord_92 : decode cX6_takeWord 92 = .ok (.invokevirtual 19, 3) := by decide +kernel
theorem dX6_takeWord_95 : decode cX6_takeWord 95 = .ok (.iconst 1, 1) := by decide +kernel
theorem dX6_takeWord_96 : decode cX6_takeWord 96 = .ok (.ireturn, 1) := by decide +kernel
set_option maxHeartbeats 2000000 in
set_option maxRecDepth 20000 in
theorem cc_take {l : Launch} {E : Ev} {P : Value → AH → Prop}  {r t b n : Nat} {B : Nat → Int32} {ff : Int32} {h : AH} (ht : h t = some (.inr (9, [.ref b, .int (nI n)]))) (hb : h b = some (.inl (E.2.2 0, 400, .inl B))) (hn : n ≤ 400) (htr : t ∉ [r]) (hbr : b ∉ [r]) {p : Nat} (hp4 : p ≤ n) {i : Nat} (hi : i < 11) (k1 : rwd (cT B) p (rsc (cT B) 97 122 n p) i → P (.int 1) (LW [(r, .inr (6, [.ref t, .int (nI (cbl B n (rsc (cT B) 97 122 n p))), .int ff]))] h)) (k0 : ¬ rwd (cT B) p (rsc (cT B) 97 122 n p) i → P (.int 0) (LW [(r, .inr (6, [.ref t, .int (nI p), .int ff]))] h)) : Mt l E yX6_takeWord cX6_takeWord 4 (some .boolean) 4 85 0 0 [.ref r, .ref (E.2.2 (20 + i))] (LW [(r, .inr (6, [.ref t, .int (nI p), .int ff]))] h) P := by
  refine Mt.of (by decide) (Nat.le_of_ble_eq_true rfl) ?_
  intro K hK hR C
  have A0 : lA [(r, (.inr (6, [.ref t, .int (nI p), .int ff]) : va_E))] := lA_one _ _
  have hwn : (rsc (cT B) 97 122 n p) ≤ n := rsc_le hp4
  have hpw : p ≤ (rsc (cT B) 97 122 n p) := rsc_ge _ _ _ _ _
  refine g_aload_n (n := 1) C dX6_takeWord_0 rfl rfl ?_
  refine l_get (n := 4) (T := TX6) C 0 1 dX6_takeWord_1 rfl A0 rfl rfl rfl (by decide) inX6 w_539 rfl ?_
  refine g_istore_n (n := 5) C dX6_takeWord_4 rfl (by decide) ?_
  have kj : G K E 4 (QM K E (some .boolean) 0 0 P) 0 0 36 [(0, .ref r), (1, .ref (E.2.2 (20 + i))), (2, .int (nI (rsc (cT B) 97 122 n p)))] [] (LW [(r, .inr (6, [.ref t, .int (nI p), .int ff]))] h) := by
    refine g_iload_n (n := 37) C dX6_takeWord_36 rfl rfl ?_
    refine g_aload_n (n := 38) C dX6_takeWord_37 rfl rfl ?_
    refine l_get (n := 41) (T := TX6) C 0 1 dX6_takeWord_38 rfl A0 rfl rfl rfl (by decide) inX6 w_539 rfl ?_
    refine g_isub (n := 42) C dX6_takeWord_41 rfl ?_
    refine g_aload_n (n := 43) C dX6_takeWord_42 rfl rfl ?_
    refine g_callV (n := 46) (As := []) C dX6_takeWord_43 rfl mw_J0_length_8abf5 w_568 (g_strR C hi) rfl rfl (room hR rfl) (ct_slen hi ?_)
    refine g_icmp_eq (n := 49) (t := 51) C dX6_takeWord_46 rfl (by decide) (fun zc46 => ?_) (fun zc46 => ?_)
    · --t46
      have hlen : (rsc (cT B) 97 122 n p) - p = (SLEN.getD i 0) := nI_inj9 (by omega) (by have := slen_8 i hi; omega) ((pk_sub hpw).symm.trans zc46)
      refine g_iconst (n := 52) (v := 0) C dX6_takeWord_51 rfl (by decide) ?_
      refine g_istore_n (n := 53) C dX6_takeWord_52 rfl (by decide) ?_
      have lq : ∀ k : Nat, k ≤ (SLEN.getD i 0) → ∀ (t9 : Int32), (∀ j, j < k → cT B (p + j) = sbt i j) → t9 = nI k → G K E 4 (QM K E (some .boolean) 0 0 P) 0 0 53 [(0, .ref r), (1, .ref (E.2.2 (20 + i))), (2, .int (nI (rsc (cT B) 97 122 n p))), (3, .int t9)] [] (LW [(r, .inr (6, [.ref t, .int (nI p), .int ff]))] h) := by
        refine loopN (fun k => ∀ (t9 : Int32), (∀ j, j < k → cT B (p + j) = sbt i j) → t9 = nI k → G K E 4 (QM K E (some .boolean) 0 0 P) 0 0 53 [(0, .ref r), (1, .ref (E.2.2 (20 + i))), (2, .int (nI (rsc (cT B) 97 122 n p))), (3, .int t9)] [] (LW [(r, .inr (6, [.ref t, .int (nI p), .int ff]))] h)) ((SLEN.getD i 0)) ?_
        intro k hlek ihk t9 ej et
        subst et
        have A0 : lA [(r, (.inr (6, [.ref t, .int (nI p), .int ff]) : va_E))] := lA_one _ _
        refine g_iload_n (n := 54) C dX6_takeWord_53 rfl rfl ?_
        refine g_aload_n (n := 55) C dX6_takeWord_54 rfl rfl ?_
        refine g_callV (n := 58) (As := []) C dX6_takeWord_55 rfl mw_J0_length_8abf5 w_568 (g_strR C hi) rfl rfl (room hR rfl) (ct_slen hi ?_)
        refine g_icmp_ge (n := 61) (t := 90) C dX6_takeWord_58 rfl (by decide) (fun zc58 => ?_) (fun zc58 => ?_)
        · --t58
          refine g_aload_n (n := 91) C dX6_takeWord_90 rfl rfl ?_
          refine g_iload_n (n := 92) C dX6_takeWord_91 rfl rfl ?_
          refine g_callV (n := 95) (As := [.int _]) C dX6_takeWord_92 rfl mw_X6_goOnFrom w_529 (fun _ _ hH9 hS9 => g_recv (ci := 6) C (by refine LW_at ?_ 0 rfl; exact A0) rfl _ _ hH9 hS9) rfl rfl (room hR rfl) (cc_goOn ht hb hn htr hbr (q := (rsc (cT B) 97 122 n p)) hwn ?_)
          refine g_iconst (n := 96) (v := 1) C dX6_takeWord_95 rfl (by decide) ?_
          refine g_zret C dX6_takeWord_96 (by decide) (by decide) (by rfl) ?_
          have ek : k = (SLEN.getD i 0) := i_eq (x := nI (SLEN.getD i 0)) rfl zc58 hlek (by have := slen_8 i hi; omega)
          exact k1 ⟨hlen, by rw [← ek]; exact ej⟩
        · --f58
          refine g_aload_n (n := 62) C dX6_takeWord_61 rfl rfl ?_
          refine l_get (n := 65) (T := TX6) C 0 0 dX6_takeWord_62 rfl A0 rfl rfl rfl (by decide) inX6 w_538 rfl ?_
          refine g_aload_n (n := 66) C dX6_takeWord_65 rfl rfl ?_
          refine l_get (n := 69) (T := TX6) C 0 1 dX6_takeWord_66 rfl A0 rfl rfl rfl (by decide) inX6 w_539 rfl ?_
          refine g_iload_n (n := 70) C dX6_takeWord_69 rfl rfl ?_
          refine g_iadd (n := 71) C dX6_takeWord_70 rfl ?_
          rw [nI_add]
          refine g_callV (n := 74) (As := [.int _]) C dX6_takeWord_71 rfl mw_X9_byteAt w_534 (g_recv C (lnb ht (by exact htr)) rfl) rfl rfl (room hR rfl) (cc_tby (lnb ht (by exact htr)) (lnb hb (by exact hbr)) (p := (p + k)) rfl hn (by have := (i_lt (x := nI (SLEN.getD i 0)) rfl zc58 hlek (by have := slen_8 i hi; omega)); omega) ?_)
          refine g_aload_n (n := 75) C dX6_takeWord_74 rfl rfl ?_
          refine g_iload_n (n := 76) C dX6_takeWord_75 rfl rfl ?_
          refine g_callV (n := 79) (As := [.int _]) C dX6_takeWord_76 rfl mw_J0_charAt_5068e w_578 (g_strR C hi) rfl rfl (room hR rfl) (ct_schar hi (i_lt (x := nI (SLEN.getD i 0)) rfl zc58 hlek (by have := slen_8 i hi; omega)) ?_)
          refine g_icmp_eq (n := 82) (t := 84) C dX6_takeWord_79 rfl (by decide) (fun zc79 => ?_) (fun zc79 => ?_)
          · --t79
            refine g_iinc (n := 87) C dX6_takeWord_84 rfl rfl rfl (by decide) ?_
            refine g_goto (t := 53) C dX6_takeWord_87 (by decide) ?_
            exact g_lv [0, 1, 2, 3] rfl (ihk (i_lt (x := nI (SLEN.getD i 0)) rfl zc58 hlek (by have := slen_8 i hi; omega)) _ (fun j hj => by rcases Nat.lt_succ_iff_lt_or_eq.mp hj with q9 | q9; exact ej j q9; rw [q9]; exact zc79) (nI_1 k))
          · --f79
            refine g_iconst (n := 83) (v := 0) C dX6_takeWord_82 rfl (by decide) ?_
            refine g_zret C dX6_takeWord_83 (by decide) (by decide) (by rfl) ?_
            exact k0 (fun zq => zc79 (zq.2 k (i_lt (x := nI (SLEN.getD i 0)) rfl zc58 hlek (by have := slen_8 i hi; omega))))
      exact g_lv [0, 1, 2, 3] rfl (lq 0 (Nat.zero_le _) _ (fun j hj => absurd hj (Nat.not_lt_zero j)) rfl)
    · --f46
      refine g_iconst (n := 50) (v := 0) C dX6_takeWord_49 rfl (by decide) ?_
      refine g_zret C dX6_takeWord_50 (by decide) (by decide) (by rfl) ?_
      exact k0 (fun zq => zc46 ((pk_sub hpw).trans (congrArg nI zq.1)))
  have lp : ∀ m : Nat, m ≤ n → ∀ (t9 : Int32), rsc (cT B) 97 122 n m = (rsc (cT B) 97 122 n p) → t9 = nI m → G K E 4 (QM K E (some .boolean) 0 0 P) 0 0 5 [(0, .ref r), (1, .ref (E.2.2 (20 + i))), (2, .int t9)] [] (LW [(r, .inr (6, [.ref t, .int (nI p), .int ff]))] h) := by
    refine loopN (fun m => ∀ (t9 : Int32), rsc (cT B) 97 122 n m = (rsc (cT B) 97 122 n p) → t9 = nI m → G K E 4 (QM K E (some .boolean) 0 0 P) 0 0 5 [(0, .ref r), (1, .ref (E.2.2 (20 + i))), (2, .int t9)] [] (LW [(r, .inr (6, [.ref t, .int (nI p), .int ff]))] h)) (n) ?_
    intro m hlem ihm t9 er et
    subst et
    have A0 : lA [(r, (.inr (6, [.ref t, .int (nI p), .int ff]) : va_E))] := lA_one _ _
    refine g_iload_n (n := 6) C dX6_takeWord_5 rfl rfl ?_
    refine g_aload_n (n := 7) C dX6_takeWord_6 rfl rfl ?_
    refine l_get (n := 10) (T := TX6) C 0 0 dX6_takeWord_7 rfl A0 rfl rfl rfl (by decide) inX6 w_538 rfl ?_
    refine g_callV (n := 13) (As := []) C dX6_takeWord_10 rfl mw_X9_length w_533 (g_recv C (lnb ht (by exact htr)) rfl) rfl rfl (room hR rfl) (cc_tlen (lnb ht (by exact htr)) ?_)
    refine g_icmp_ge (n := 16) (t := 36) C dX6_takeWord_13 rfl (by decide) (fun zc13 => ?_) (fun zc13 => ?_)
    · --t13
      have ep : m = (rsc (cT B) 97 122 n p) := (rsc_0 (T := cT B) (fun zq => by first | exact absurd zq.1 (by omega) | (have := i_eq (x := nI n) rfl zc13 hlem (by omega); have := zq.1; omega) | exact zb24 zq.2)).symm.trans er
      rw [ep]
      exact g_lv [0, 1, 2] rfl kj
    · --f13
      refine g_aload_n (n := 17) C dX6_takeWord_16 rfl rfl ?_
      refine l_get (n := 20) (T := TX6) C 0 0 dX6_takeWord_17 rfl A0 rfl rfl rfl (by decide) inX6 w_538 rfl ?_
      refine g_iload_n (n := 21) C dX6_takeWord_20 rfl rfl ?_
      refine g_callV (n := 24) (As := [.int _]) C dX6_takeWord_21 rfl mw_X9_byteAt w_534 (g_recv C (lnb ht (by exact htr)) rfl) rfl rfl (room hR rfl) (cc_tbyte (lnb ht (by exact htr)) (lnb hb (by exact hbr)) (p := m) rfl hn (by omega) (fun za21 => ?_) (fun zb21 => ?_))
      · --k21.0
        refine g_callS (n := 27) (As := [.int _]) C dX6_takeWord_24 rfl mw_X6_isLetter w_565 rfl rfl (room hR rfl) (cc_isLetter (fun za24 => ?_) (fun zb24 => ?_))
        · --k24.0
          refine g_if_eq (n := 30) (t := 36) C dX6_takeWord_27 rfl (by decide) (fun zc27 => ?_) (fun zc27 => ?_)
          · exact absurd zc27 (by decide)
          refine g_iinc (n := 33) C dX6_takeWord_30 rfl rfl rfl (by decide) ?_
          refine g_goto (t := 5) C dX6_takeWord_33 (by decide) ?_
          exact g_lv [0, 1, 2] rfl (ihm (i_lt (x := nI n) rfl zc13 hlem (by omega)) _ ((rsc_s (T := cT B) (by first | exact ⟨i_lt (x := nI n) rfl zc13 hlem (by omega), za24⟩ | exact absurd za24.1 (by decide))).symm.trans er) (nI_1 m))
        · --k24.1
          refine g_if_eq (n := 30) (t := 36) C dX6_takeWord_27 rfl (by decide) (fun zc27 => ?_) (fun zc27 => ?_)
          rotate_left
          · exact absurd zc27 (by decide)
          have ep : m = (rsc (cT B) 97 122 n p) := (rsc_0 (T := cT B) (fun zq => by first | exact absurd zq.1 (by omega) | (have := i_eq (x := nI n) rfl zc13 hlem (by omega); have := zq.1; omega) | exact zb24 zq.2)).symm.trans er
          rw [ep]
          exact g_lv [0, 1, 2] rfl kj
      · --k21.1
        refine g_callS (n := 27) (As := [.int _]) C dX6_takeWord_24 rfl mw_X6_isLetter w_565 rfl rfl (room hR rfl) (cc_isLetter (fun za24 => ?_) (fun zb24 => ?_))
        · --k24.0
          refine g_if_eq (n := 30) (t := 36) C dX6_takeWord_27 rfl (by decide) (fun zc27 => ?_) (fun zc27 => ?_)
          · exact absurd zc27 (by decide)
          refine g_iinc (n := 33) C dX6_takeWord_30 rfl rfl rfl (by decide) ?_
          refine g_goto (t := 5) C dX6_takeWord_33 (by decide) ?_
          exact g_lv [0, 1, 2] rfl (ihm (i_lt (x := nI n) rfl zc13 hlem (by omega)) _ ((rsc_s (T := cT B) (by first | exact ⟨i_lt (x := nI n) rfl zc13 hlem (by omega), za24⟩ | exact absurd za24.1 (by decide))).symm.trans er) (nI_1 m))
        · --k24.1
          refine g_if_eq (n := 30) (t := 36) C dX6_takeWord_27 rfl (by decide) (fun zc27 => ?_) (fun zc27 => ?_)
          rotate_left
          · exact absurd zc27 (by decide)
          have ep : m = (rsc (cT B) 97 122 n p) := (rsc_0 (T := cT B) (fun zq => by first | exact absurd zq.1 (by omega) | (have := i_eq (x := nI n) rfl zc13 hlem (by omega); have := zq.1; omega) | exact zb24 zq.2)).symm.trans er
          rw [ep]
          exact g_lv [0, 1, 2] rfl kj
  exact g_lv [0, 1, 2] rfl (lp _ (hp4) _ rfl rfl)
theorem dX6_expectWord_0 : decode cX6_expectWord 0 = .ok (.aload_n 0, 1) := by decide +kernel
theorem dX6_expectWord_1 : decode cX6_expectWord 1 = .ok (.aload_n 1, 1) := by decide +kernel
theorem dX6_expectWord_2 : decode cX6_expectWord 2 = .ok (.invokevirtual 47, 3) := by decide +kernel
theorem dX6_expectWord_5 : decode cX6_expectWord 5 = .ok (.ifCond .ne 7, 3) := by decide +kernel
theorem dX6_expectWord_8 : decode cX6_expectWord 8 = .ok (.aload_n 0, 1) := by decide +kernel
theorem dX6_expectWord_9 : decode cX6_expectWord 9 = .ok (.invokevirtual 51, 3) := by decide +kernel
theorem dX6_expectWord_12 : decode cX6_expectWord 12 = .ok (.return_, 1) := by decide +kernel
set_option maxHeartbeats 400000 in
set_option maxRecDepth 20000 in
theorem cc_xword {l : Launch} {E : Ev} {P : Value → AH → Prop}  {r t b n : Nat} {B : Nat → Int32} {ff : Int32} {h : AH} (ht : h t = some (.inr (9, [.ref b, .int (nI n)]))) (hb : h b = some (.inl (E.2.2 0, 400, .inl B))) (hn : n ≤ 400) (htr : t ∉ [r]) (hbr : b ∉ [r]) {p : Nat} (hp4 : p ≤ n) {i : Nat} (hi : i < 11) (k1 : rwd (cT B) p (rsc (cT B) 97 122 n p) i → P .null (LW [(r, .inr (6, [.ref t, .int (nI (cbl B n (rsc (cT B) 97 122 n p))), .int ff]))] h)) (k0 : ¬ rwd (cT B) p (rsc (cT B) 97 122 n p) i → P .null (LW [(r, .inr (6, [.ref t, .int (nI p), .int (cff ff (nI p))]))] h)) : Mt l E yX6_expectWord cX6_expectWord 2 none 5 108 0 0 [.ref r, .ref (E.2.2 (20 + i))] (LW [(r, .inr (6, [.ref t, .int (nI p), .int ff]))] h) P := by
  refine Mt.of (by decide) (Nat.le_of_ble_eq_true rfl) ?_
  intro K hK hR C
  have A0 : lA [(r, (.inr (6, [.ref t, .int (nI p), .int ff]) : va_E))] := lA_one _ _
  refine g_aload_n (n := 1) C dX6_expectWord_0 rfl rfl ?_
  refine g_aload_n (n := 2) C dX6_expectWord_1 rfl rfl ?_
  refine g_callV (n := 5) (As := [.ref _]) C dX6_expectWord_2 rfl mw_X6_takeWord w_619 (fun _ _ hH9 hS9 => g_recv (ci := 6) C (by refine LW_at ?_ 0 rfl; exact A0) rfl _ _ hH9 hS9) rfl rfl (room hR rfl) (cc_take ht hb hn htr hbr hp4 hi (fun za2 => ?_) (fun zb2 => ?_))
  · --k2.0
    refine g_if_ne (n := 8) (t := 12) C dX6_expectWord_5 rfl (by decide) (fun zc5 => ?_) (fun zc5 => ?_)
    rotate_left
    · exact absurd zc5 (by decide)
    refine g_vret C dX6_expectWord_12 (by decide) (by decide) ?_
    first | exact k1 za2 | exact k0 zb2
  · --k2.1
    refine g_if_ne (n := 8) (t := 12) C dX6_expectWord_5 rfl (by decide) (fun zc5 => ?_) (fun zc5 => ?_)
    · exact absurd zc5 (by decide)
    refine g_aload_n (n := 9) C dX6_expectWord_8 rfl rfl ?_
    refine g_callV (n := 12) (As := []) C dX6_expectWord_9 rfl mw_X6_refuse w_620 (fun _ _ hH9 hS9 => g_recv (ci := 6) C (by refine LW_at ?_ 0 rfl; exact A0) rfl _ _ hH9 hS9) rfl rfl (room hR rfl) (cc_refuse ?_)
    refine g_vret C dX6_expectWord_12 (by decide) (by decide) ?_
    first | exact k1 za2 | exact k0 zb2
theorem nI_bigP {a n : Nat} (c : 6 < nI a - nI n) (h : n ≤ a) (ha : a ≤ 400) : 6 < a - n := by
  rw [pk_sub h] at c
  exact (nI_ltI (a := 6) (b := a - n) (by decide) (by omega)).mp c
theorem nI_bigN {a n : Nat} (c : ¬ 6 < nI a - nI n) (h : n ≤ a) (ha : a ≤ 400) : a - n ≤ 6 := by
  rcases Nat.lt_or_ge 6 (a - n) with q | q
  · exact absurd (by rw [pk_sub h]; exact nI_lt (a := 6) (b := a - n) q (by omega)) c
  · exact q
theorem dX6_expectNumber_0 : decode cX6_expectNumber 0 = .ok (.aload_n 0, 1) := by decide +kernel
theorem dX6_expectNumber_1 : decode cX6_expectNumber 1 = .ok (.getfield 23, 3) := by decide +kernel
theorem dX6_expectNumber_4 : decode cX6_expectNumber 4 = .ok (.istore_n 3, 1) := by decide +kernel
theorem dX6_expectNumber_5 : decode cX6_expectNumber 5 = .ok (.iconst 0, 1) := by decide +kernel
theorem dX6_expectNumber_6 : decode cX6_expectNumber 6 = .ok (.istore 4, 2) := by decide +kernel
theorem dX6_expectNumber_8 : decode cX6_expectNumber 8 = .ok (.iload_n 3, 1) := by decide +kernel
theorem dX6_expectNumber_9 : decode cX6_expectNumber 9 = .ok (.aload_n 0, 1) := by decide +kernel
theorem dX6_expectNumber_10 : decode cX6_expectNumber 10 = .ok (.getfield 9, 3) := by decide +kernel
theorem dX6_expectNumber_13 : decode cX6_expectNumber 13 = .ok (.invokevirtual 26, 3) := by decide +kernel
theorem dX6_expectNumber_16 : decode cX6_expectNumber 16 = .ok (.if_icmp .ge 53, 3) := by decide +kernel
theorem dX6_expectNumber_19 : decode cX6_expectNumber 19 = .ok (.aload_n 0, 1) := by decide +kernel
theorem dX6_expectNumber_20 : decode cX6_expectNumber 20 = .ok (.getfield 9, 3) := by decide +kernel
theorem dX6_expectNumber_23 : decode cX6_expectNumber 23 = .ok (.iload_n 3, 1) := by decide +kernel
theorem dX6_expectNumber_24 : decode cX6_expectNumber 24 = .ok (.invokevirtual 32, 3) := by decide +kernel
theorem dX6_expectNumber_27 : decode cX6_expectNumber 27 = .ok (.invokestatic 54, 3) := by decide +kernel
theorem dX6_expectNumber_30 : decode cX6_expectNumber 30 = .ok (.ifCond .eq 39, 3) := by decide +kernel
theorem dX6_expectNumber_33 : decode cX6_expectNumber 33 = .ok (.iload_n 3, 1) := by decide +kernel
theorem dX6_expectNumber_34 : decode cX6_expectNumber 34 = .ok (.aload_n 0, 1) := by decide +kernel
theorem dX6_expectNumber_35 : decode cX6_expectNumber 35 = .ok (.getfield 23, 3) := by decide +kernel
theorem dX6_expectNumber_38 : decode cX6_expectNumber 38 = .ok (.isub, 1) := by decide +kernel
theorem dX6_expectNumber_39 : decode cX6_expectNumber 39 = .ok (.bipush 6, 2) := by decide +kernel
theorem dX6_expectNumber_41 : decode cX6_expectNumber 41 = .ok (.if_icmp .ge 22, 3) := by decide +kernel
theorem dX6_expectNumber_44 : decode cX6_expectNumber 44 = .ok (.bipush 10, 2) := by decide +kernel
theorem dX6_expectNumber_46 : decode cX6_expectNumber 46 = .ok (.iload 4, 2) := by decide +kernel
theorem dX6_expectNumber_48 : decode cX6_expectNumber 48 = .ok (.imul, 1) := by decide +kernel
theorem dX6_expectNumber_49 : decode cX6_expectNumber 49 = .ok (.aload_n 0, 1) := by decide +kernel
theorem dX6_expectNumber_50 : decode cX6_expectNumber 50 = .ok (.getfield 9, 3) := by decide +kernel
theorem dX6_expectNumber_53 : decode cX6_expectNumber 53 = .ok (.iload_n 3, 1) := by decide +kernel
theorem dX6_expectNumber_54 : decode cX6_expectNumber 54 = .ok (.invokevirtual 32, 3) := by decide +kernel
theorem dX6_expectNumber_57 : decode cX6_expectNumber 57 = .ok (.iadd, 1) := by decide +kernel
theorem dX6_expectNumber_58 : decode cX6_expectNumber 58 = .ok (.bipush 48, 2) := by decide +kernel
theorem dX6_expectNumber_60 : decode cX6_expectNumber 60 = .ok (.isub, 1) := by decide +kernel
theorem dX6_expectNumber_61 : decode cX6_expectNumber 61 = .ok (.istore 4, 2) := by decide +kernel
theorem dX6_expectNumber_63 : decode cX6_expectNumber 63 = .ok (.iinc 3 1, 3) := by decide +kernel
theorem dX6_expectNumber_66 : decode cX6_expectNumber 66 = .ok (.goto (-58), 3) := by decide +kernel
theorem dX6_expectNumber_69 : decode cX6_expectNumber 69 = .ok (.iload_n 3, 1) := by decide +kernel
theorem dX6_expectNumber_70 : decode cX6_expectNumber 70 = .ok (.aload_n 0, 1) := by decide +kernel
theorem dX6_expectNumber_71 : decode cX6_expectNumber 71 = .ok (.getfield 23, 3) := by decide +kernel
theorem dX6_expectNumber_74 : decode cX6_expectNumber 74 = .ok (.isub, 1) := by decide +kernel
theorem dX6_expectNumber_75 : decode cX6_expectNumber 75 = .ok (.istore 5, 2) := by decide +kernel
theorem dX6_expectNumber_77 : decode cX6_expectNumber 77 = .ok (.iload 5, 2) := by decide +kernel
theorem dX6_expectNumber_79 : decode cX6_expectNumber 79 = .ok (.iconst 1, 1) := by decide +kernel
theorem dX6_expectNumber_80 : decode cX6_expectNumber 80 = .ok (.if_icmp .lt 22, 3) := by decide +kernel
theorem dX6_expectNumber_83 : decode cX6_expectNumber 83 = .ok (.iload 5, 2) := by decide +kernel
theorem dX6_expectNumber_85 : decode cX6_expectNumber 85 = .ok (.bipush 6, 2) := by decide +kernel
theorem dX6_expectNumber_87 : decode cX6_expectNumber 87 = .ok (.if_icmp .gt 15, 3) := by decide +kernel
theorem dX6_expectNumber_90 : decode cX6_expectNumber 90 = .ok (.iload 4, 2) := by decide +kernel
theorem dX6_expectNumber_92 : decode cX6_expectNumber 92 = .ok (.iload_n 1, 1) := by decide +kernel
theorem dX6_expectNumber_93 : decode cX6_expectNumber 93 = .ok (.if_icmp .lt 9, 3) := by decide +kernel
theorem dX6_expectNumber_96 : decode cX6_expectNumber 96 = .ok (.iload 4, 2) := by decide +kernel
theorem dX6_expectNumber_98 : decode cX6_expectNumber 98 = .ok (.iload_n 2, 1) := by decide +kernel
theorem dX6_expectNumber_99 : decode cX6_expectNumber 99 = .ok (.if_icmp .le 9, 3) := by decide +kernel
theorem dX6_expectNumber_102 : decode cX6_expectNumber 102 = .ok (.aload_n 0, 1) := by decide +kernel
theorem dX6_expectNumber_103 : decode cX6_expectNumber 103 = .ok (.invokevirtual 51, 3) := by decide +kernel
theorem dX6_expectNumber_106 : decode cX6_expectNumber 106 = .ok (.iconst (-1), 1) := by decide +kernel
theorem dX6_expectNumber_107 : decode cX6_expectNumber 107 = .ok (.ireturn, 1) := by decide +kernel
theorem dX6_expectNumber_108 : decode cX6_expectNumber 108 = .ok (.aload_n 0, 1) := by decide +kernel
theorem dX6_expectNumber_109 : decode cX6_expectNumber 109 = .ok (.iload_n 3, 1) := by decide +kernel
theorem dX6_expectNumber_110 : decode cX6_expectNumber 110 = .ok (.invokevirtual 19, 3) := by decide +kernel
theorem dX6_expectNumber_113 : decode cX6_expectNumber 113 = .ok (.iload 4, 2) := by decide +kernel
theorem dX6_expectNumber_115 : decode cX6_expectNumber 115 = .ok (.ireturn, 1) := by decide +kernel
set_option maxHeartbeats 2000000 in
set_option maxRecDepth 20000 in
theorem cc_xnum {l : Launch} {E : Ev} {P : Value → AH → Prop}  {r t b n : Nat} {B : Nat → Int32} {ff : Int32} {h : AH} (ht : h t = some (.inr (9, [.ref b, .int (nI n)]))) (hb : h b = some (.inl (E.2.2 0, 400, .inl B))) (hn : n ≤ 400) (htr : t ∉ [r]) (hbr : b ∉ [r]) {p : Nat} (hp4 : p ≤ n) {lo hi : Int32} (k1 : rnok (cT B) p (rsc (cT B) 48 57 n p) lo hi → P (.int (rnv (cT B) p ((rsc (cT B) 48 57 n p) - p))) (LW [(r, .inr (6, [.ref t, .int (nI (cbl B n (rsc (cT B) 48 57 n p))), .int ff]))] h)) (k0 : ¬ rnok (cT B) p (rsc (cT B) 48 57 n p) lo hi → P (.int (-1)) (LW [(r, .inr (6, [.ref t, .int (nI p), .int (cff ff (nI p))]))] h)) : Mt l E yX6_expectNumber cX6_expectNumber 6 (some .int) 2 42 0 0 [.ref r, .int lo, .int hi] (LW [(r, .inr (6, [.ref t, .int (nI p), .int ff]))] h) P := by
  refine Mt.of (by decide) (Nat.le_of_ble_eq_true rfl) ?_
  intro K hK hR C
  have A0 : lA [(r, (.inr (6, [.ref t, .int (nI p), .int ff]) : va_E))] := lA_one _ _
  have hwn : (rsc (cT B) 48 57 n p) ≤ n := rsc_le hp4
  have hpw : p ≤ (rsc (cT B) 48 57 n p) := rsc_ge _ _ _ _ _
  refine g_aload_n (n := 1) C dX6_expectNumber_0 rfl rfl ?_
  refine l_get (n := 4) (T := TX6) C 0 1 dX6_expectNumber_1 rfl A0 rfl rfl rfl (by decide) inX6 w_539 rfl ?_
  refine g_istore_n (n := 5) C dX6_expectNumber_4 rfl (by decide) ?_
  refine g_iconst (n := 6) (v := 0) C dX6_expectNumber_5 rfl (by decide) ?_
  refine g_istore (n := 8) C dX6_expectNumber_6 rfl (by decide) ?_
  have kj : G K E 6 (QM K E (some .int) 0 0 P) 0 0 69 [(0, .ref r), (1, .int lo), (2, .int hi), (3, .int (nI (rsc (cT B) 48 57 n p))), (4, .int (rnv (cT B) p ((rsc (cT B) 48 57 n p) - p)))] [] (LW [(r, .inr (6, [.ref t, .int (nI p), .int ff]))] h) := by
    refine g_iload_n (n := 70) C dX6_expectNumber_69 rfl rfl ?_
    refine g_aload_n (n := 71) C dX6_expectNumber_70 rfl rfl ?_
    refine l_get (n := 74) (T := TX6) C 0 1 dX6_expectNumber_71 rfl A0 rfl rfl rfl (by decide) inX6 w_539 rfl ?_
    refine g_isub (n := 75) C dX6_expectNumber_74 rfl ?_
    refine g_istore (n := 77) C dX6_expectNumber_75 rfl (by decide) ?_
    refine g_iload (n := 79) C dX6_expectNumber_77 rfl rfl ?_
    refine g_iconst (n := 80) (v := 1) C dX6_expectNumber_79 rfl (by decide) ?_
    refine g_icmp_lt (n := 83) (t := 102) C dX6_expectNumber_80 rfl (by decide) (fun zc80 => ?_) (fun zc80 => ?_)
    · --t80
      refine g_aload_n (n := 103) C dX6_expectNumber_102 rfl rfl ?_
      refine g_callV (n := 106) (As := []) C dX6_expectNumber_103 rfl mw_X6_refuse w_620 (fun _ _ hH9 hS9 => g_recv (ci := 6) C (by refine LW_at ?_ 0 rfl; exact A0) rfl _ _ hH9 hS9) rfl rfl (room hR rfl) (cc_refuse ?_)
      refine g_iconst (n := 107) (v := (-1)) C dX6_expectNumber_106 rfl (by decide) ?_
      refine g_iret C dX6_expectNumber_107 (by decide) (by decide) ?_
      first | exact k0 (fun zq => Int32.not_le.mpr zc93 zq.2.2.1) | exact k0 (fun zq => zc99 zq.2.2.2) | exact k0 (fun zq => by have := nI_sml (k := 1) (Int32.not_le.mpr zc80) hpw (by omega) (by decide); have := zq.1; omega) | exact k0 (fun zq => by have := nI_bigP zc87 hpw (by omega); have := zq.2.1; omega)
    · --f80
      refine g_iload (n := 85) C dX6_expectNumber_83 rfl rfl ?_
      refine g_bipush (n := 87) (v := 6) C dX6_expectNumber_85 rfl (by decide) ?_
      refine g_icmp_gt (n := 90) (t := 102) C dX6_expectNumber_87 rfl (by decide) (fun zc87 => ?_) (fun zc87 => ?_)
      · --t87
        refine g_aload_n (n := 103) C dX6_expectNumber_102 rfl rfl ?_
        refine g_callV (n := 106) (As := []) C dX6_expectNumber_103 rfl mw_X6_refuse w_620 (fun _ _ hH9 hS9 => g_recv (ci := 6) C (by refine LW_at ?_ 0 rfl; exact A0) rfl _ _ hH9 hS9) rfl rfl (room hR rfl) (cc_refuse ?_)
        refine g_iconst (n := 107) (v := (-1)) C dX6_expectNumber_106 rfl (by decide) ?_
        refine g_iret C dX6_expectNumber_107 (by decide) (by decide) ?_
        first | exact k0 (fun zq => Int32.not_le.mpr zc93 zq.2.2.1) | exact k0 (fun zq => zc99 zq.2.2.2) | exact k0 (fun zq => by have := nI_sml (k := 1) (Int32.not_le.mpr zc80) hpw (by omega) (by decide); have := zq.1; omega) | exact k0 (fun zq => by have := nI_bigP zc87 hpw (by omega); have := zq.2.1; omega)
      · --f87
        refine g_iload (n := 92) C dX6_expectNumber_90 rfl rfl ?_
        refine g_iload_n (n := 93) C dX6_expectNumber_92 rfl rfl ?_
        refine g_icmp_lt (n := 96) (t := 102) C dX6_expectNumber_93 rfl (by decide) (fun zc93 => ?_) (fun zc93 => ?_)
        · --t93
          refine g_aload_n (n := 103) C dX6_expectNumber_102 rfl rfl ?_
          refine g_callV (n := 106) (As := []) C dX6_expectNumber_103 rfl mw_X6_refuse w_620 (fun _ _ hH9 hS9 => g_recv (ci := 6) C (by refine LW_at ?_ 0 rfl; exact A0) rfl _ _ hH9 hS9) rfl rfl (room hR rfl) (cc_refuse ?_)
          refine g_iconst (n := 107) (v := (-1)) C dX6_expectNumber_106 rfl (by decide) ?_
          refine g_iret C dX6_expectNumber_107 (by decide) (by decide) ?_
          first | exact k0 (fun zq => Int32.not_le.mpr zc93 zq.2.2.1) | exact k0 (fun zq => zc99 zq.2.2.2) | exact k0 (fun zq => by have := nI_sml (k := 1) (Int32.not_le.mpr zc80) hpw (by omega) (by decide); have := zq.1; omega) | exact k0 (fun zq => by have := nI_bigP zc87 hpw (by omega); have := zq.2.1; omega)
        · --f93
          refine g_iload (n := 98) C dX6_expectNumber_96 rfl rfl ?_
          refine g_iload_n (n := 99) C dX6_expectNumber_98 rfl rfl ?_
          refine g_icmp_le (n := 102) (t := 108) C dX6_expectNumber_99 rfl (by decide) (fun zc99 => ?_) (fun zc99 => ?_)
          · --t99
            refine g_aload_n (n := 109) C dX6_expectNumber_108 rfl rfl ?_
            refine g_iload_n (n := 110) C dX6_expectNumber_109 rfl rfl ?_
            refine g_callV (n := 113) (As := [.int _]) C dX6_expectNumber_110 rfl mw_X6_goOnFrom w_529 (fun _ _ hH9 hS9 => g_recv (ci := 6) C (by refine LW_at ?_ 0 rfl; exact A0) rfl _ _ hH9 hS9) rfl rfl (room hR rfl) (cc_goOn ht hb hn htr hbr (q := (rsc (cT B) 48 57 n p)) hwn ?_)
            refine g_iload (n := 115) C dX6_expectNumber_113 rfl rfl ?_
            refine g_iret C dX6_expectNumber_115 (by decide) (by decide) ?_
            exact k1 ⟨by have := nI_big (k := 1) (Int32.not_lt.mp zc80) hpw (by omega) (by decide); omega, by have := nI_bigN zc87 hpw (by omega); omega, Int32.not_lt.mp zc93, zc99⟩
          · --f99
            refine g_aload_n (n := 103) C dX6_expectNumber_102 rfl rfl ?_
            refine g_callV (n := 106) (As := []) C dX6_expectNumber_103 rfl mw_X6_refuse w_620 (fun _ _ hH9 hS9 => g_recv (ci := 6) C (by refine LW_at ?_ 0 rfl; exact A0) rfl _ _ hH9 hS9) rfl rfl (room hR rfl) (cc_refuse ?_)
            refine g_iconst (n := 107) (v := (-1)) C dX6_expectNumber_106 rfl (by decide) ?_
            refine g_iret C dX6_expectNumber_107 (by decide) (by decide) ?_
            first | exact k0 (fun zq => Int32.not_le.mpr zc93 zq.2.2.1) | exact k0 (fun zq => zc99 zq.2.2.2) | exact k0 (fun zq => by have := nI_sml (k := 1) (Int32.not_le.mpr zc80) hpw (by omega) (by decide); have := zq.1; omega) | exact k0 (fun zq => by have := nI_bigP zc87 hpw (by omega); have := zq.2.1; omega)
  have lp : ∀ m : Nat, m ≤ n → ∀ (t9 v9 : Int32), p ≤ m → rsc (cT B) 48 57 n m = (rsc (cT B) 48 57 n p) → t9 = nI m → v9 = rnv (cT B) p (m - p) → G K E 6 (QM K E (some .int) 0 0 P) 0 0 8 [(0, .ref r), (1, .int lo), (2, .int hi), (3, .int t9), (4, .int v9)] [] (LW [(r, .inr (6, [.ref t, .int (nI p), .int ff]))] h) := by
    refine loopN (fun m => ∀ (t9 v9 : Int32), p ≤ m → rsc (cT B) 48 57 n m = (rsc (cT B) 48 57 n p) → t9 = nI m → v9 = rnv (cT B) p (m - p) → G K E 6 (QM K E (some .int) 0 0 P) 0 0 8 [(0, .ref r), (1, .int lo), (2, .int hi), (3, .int t9), (4, .int v9)] [] (LW [(r, .inr (6, [.ref t, .int (nI p), .int ff]))] h)) (n) ?_
    intro m hlem ihm t9 v9 hpm er et ev
    subst et
    have A0 : lA [(r, (.inr (6, [.ref t, .int (nI p), .int ff]) : va_E))] := lA_one _ _
    refine g_iload_n (n := 9) C dX6_expectNumber_8 rfl rfl ?_
    refine g_aload_n (n := 10) C dX6_expectNumber_9 rfl rfl ?_
    refine l_get (n := 13) (T := TX6) C 0 0 dX6_expectNumber_10 rfl A0 rfl rfl rfl (by decide) inX6 w_538 rfl ?_
    refine g_callV (n := 16) (As := []) C dX6_expectNumber_13 rfl mw_X9_length w_533 (g_recv C (lnb ht (by exact htr)) rfl) rfl rfl (room hR rfl) (cc_tlen (lnb ht (by exact htr)) ?_)
    refine g_icmp_ge (n := 19) (t := 69) C dX6_expectNumber_16 rfl (by decide) (fun zc16 => ?_) (fun zc16 => ?_)
    · --t16
      have ep : m = (rsc (cT B) 48 57 n p) := (rsc_0 (T := cT B) (fun zq => by first | exact absurd zq.1 (by omega) | (have := i_eq (x := nI n) rfl zc16 hlem (by omega); have := zq.1; omega) | exact zb27 zq.2)).symm.trans er
      rw [ev, ep]
      exact g_lv [0, 1, 2, 3, 4] rfl kj
    · --f16
      refine g_aload_n (n := 20) C dX6_expectNumber_19 rfl rfl ?_
      refine l_get (n := 23) (T := TX6) C 0 0 dX6_expectNumber_20 rfl A0 rfl rfl rfl (by decide) inX6 w_538 rfl ?_
      refine g_iload_n (n := 24) C dX6_expectNumber_23 rfl rfl ?_
      refine g_callV (n := 27) (As := [.int _]) C dX6_expectNumber_24 rfl mw_X9_byteAt w_534 (g_recv C (lnb ht (by exact htr)) rfl) rfl rfl (room hR rfl) (cc_tbyte (lnb ht (by exact htr)) (lnb hb (by exact hbr)) (p := m) rfl hn (by omega) (fun za24 => ?_) (fun zb24 => ?_))
      · --k24.0
        refine g_callS (n := 30) (As := [.int _]) C dX6_expectNumber_27 rfl mw_X6_isDigit w_629 rfl rfl (room hR rfl) (cc_isDigit (fun za27 => ?_) (fun zb27 => ?_))
        · --k27.0
          refine g_if_eq (n := 33) (t := 69) C dX6_expectNumber_30 rfl (by decide) (fun zc30 => ?_) (fun zc30 => ?_)
          · exact absurd zc30 (by decide)
          
          refine g_iload_n (n := 34) C dX6_expectNumber_33 rfl rfl ?_
          refine g_aload_n (n := 35) C dX6_expectNumber_34 rfl rfl ?_
          refine l_get (n := 38) (T := TX6) C 0 1 dX6_expectNumber_35 rfl A0 rfl rfl rfl (by decide) inX6 w_539 rfl ?_
          refine g_isub (n := 39) C dX6_expectNumber_38 rfl ?_
          refine g_bipush (n := 41) (v := 6) C dX6_expectNumber_39 rfl (by decide) ?_
          refine g_icmp_ge (n := 44) (t := 63) C dX6_expectNumber_41 rfl (by decide) (fun zc41 => ?_) (fun zc41 => ?_)
          · --t41
            refine g_iinc (n := 66) C dX6_expectNumber_63 rfl rfl rfl (by decide) ?_
            refine g_goto (t := 8) C dX6_expectNumber_66 (by decide) ?_
            exact g_lv [0, 1, 2, 3, 4] rfl (ihm (by first | exact i_lt (x := nI n) rfl zc16 hlem (by omega) | omega) _ _ (by omega) ((rsc_s (T := cT B) (by first | exact ⟨i_lt (x := nI n) rfl zc16 hlem (by omega), za27⟩ | exact absurd za27.1 (by decide))).symm.trans er) (nI_1 m) (by rw [Nat.succ_sub hpm, ev]; first | (rw [← rnv_s (nI_sml (k := 6) zc41 hpm (by omega) (by decide)), Nat.add_sub_cancel' hpm]) | exact rnv_0 (Nat.not_lt.mpr (nI_big (k := 6) zc41 hpm (by omega) (by decide)))))
          · --f41
            refine g_bipush (n := 46) (v := 10) C dX6_expectNumber_44 rfl (by decide) ?_
            refine g_iload (n := 48) C dX6_expectNumber_46 rfl rfl ?_
            refine g_imul (n := 49) C dX6_expectNumber_48 rfl ?_
            refine g_aload_n (n := 50) C dX6_expectNumber_49 rfl rfl ?_
            refine l_get (n := 53) (T := TX6) C 0 0 dX6_expectNumber_50 rfl A0 rfl rfl rfl (by decide) inX6 w_538 rfl ?_
            refine g_iload_n (n := 54) C dX6_expectNumber_53 rfl rfl ?_
            refine g_callV (n := 57) (As := [.int _]) C dX6_expectNumber_54 rfl mw_X9_byteAt w_534 (g_recv C (lnb ht (by exact htr)) rfl) rfl rfl (room hR rfl) (cc_tby (lnb ht (by exact htr)) (lnb hb (by exact hbr)) (p := m) rfl hn (by first | exact i_lt (x := nI n) rfl zc16 hlem (by omega) | omega) ?_)
            refine g_iadd (n := 58) C dX6_expectNumber_57 rfl ?_
            refine g_bipush (n := 60) (v := 48) C dX6_expectNumber_58 rfl (by decide) ?_
            refine g_isub (n := 61) C dX6_expectNumber_60 rfl ?_
            refine g_istore (n := 63) C dX6_expectNumber_61 rfl (by decide) ?_
            refine g_iinc (n := 66) C dX6_expectNumber_63 rfl rfl rfl (by decide) ?_
            refine g_goto (t := 8) C dX6_expectNumber_66 (by decide) ?_
            exact g_lv [0, 1, 2, 3, 4] rfl (ihm (by first | exact i_lt (x := nI n) rfl zc16 hlem (by omega) | omega) _ _ (by omega) ((rsc_s (T := cT B) (by first | exact ⟨i_lt (x := nI n) rfl zc16 hlem (by omega), za27⟩ | exact absurd za27.1 (by decide))).symm.trans er) (nI_1 m) (by rw [Nat.succ_sub hpm, ev]; first | (rw [← rnv_s (nI_sml (k := 6) zc41 hpm (by omega) (by decide)), Nat.add_sub_cancel' hpm]) | exact rnv_0 (Nat.not_lt.mpr (nI_big (k := 6) zc41 hpm (by omega) (by decide)))))
        · --k27.1
          refine g_if_eq (n := 33) (t := 69) C dX6_expectNumber_30 rfl (by decide) (fun zc30 => ?_) (fun zc30 => ?_)
          rotate_left
          · exact absurd zc30 (by decide)
          have ep : m = (rsc (cT B) 48 57 n p) := (rsc_0 (T := cT B) (fun zq => by first | exact absurd zq.1 (by omega) | (have := i_eq (x := nI n) rfl zc16 hlem (by omega); have := zq.1; omega) | exact zb27 zq.2)).symm.trans er
          rw [ev, ep]
          exact g_lv [0, 1, 2, 3, 4] rfl kj
      · --k24.1
        refine g_callS (n := 30) (As := [.int _]) C dX6_expectNumber_27 rfl mw_X6_isDigit w_629 rfl rfl (room hR rfl) (cc_isDigit (fun za27 => ?_) (fun zb27 => ?_))
        · --k27.0
          refine g_if_eq (n := 33) (t := 69) C dX6_expectNumber_30 rfl (by decide) (fun zc30 => ?_) (fun zc30 => ?_)
          · exact absurd zc30 (by decide)
          
          refine g_iload_n (n := 34) C dX6_expectNumber_33 rfl rfl ?_
          refine g_aload_n (n := 35) C dX6_expectNumber_34 rfl rfl ?_
          refine l_get (n := 38) (T := TX6) C 0 1 dX6_expectNumber_35 rfl A0 rfl rfl rfl (by decide) inX6 w_539 rfl ?_
          refine g_isub (n := 39) C dX6_expectNumber_38 rfl ?_
          refine g_bipush (n := 41) (v := 6) C dX6_expectNumber_39 rfl (by decide) ?_
          refine g_icmp_ge (n := 44) (t := 63) C dX6_expectNumber_41 rfl (by decide) (fun zc41 => ?_) (fun zc41 => ?_)
          · --t41
            refine g_iinc (n := 66) C dX6_expectNumber_63 rfl rfl rfl (by decide) ?_
            refine g_goto (t := 8) C dX6_expectNumber_66 (by decide) ?_
            exact g_lv [0, 1, 2, 3, 4] rfl (ihm (by first | exact i_lt (x := nI n) rfl zc16 hlem (by omega) | omega) _ _ (by omega) ((rsc_s (T := cT B) (by first | exact ⟨i_lt (x := nI n) rfl zc16 hlem (by omega), za27⟩ | exact absurd za27.1 (by decide))).symm.trans er) (nI_1 m) (by rw [Nat.succ_sub hpm, ev]; first | (rw [← rnv_s (nI_sml (k := 6) zc41 hpm (by omega) (by decide)), Nat.add_sub_cancel' hpm]) | exact rnv_0 (Nat.not_lt.mpr (nI_big (k := 6) zc41 hpm (by omega) (by decide)))))
          · --f41
            refine g_bipush (n := 46) (v := 10) C dX6_expectNumber_44 rfl (by decide) ?_
            refine g_iload (n := 48) C dX6_expectNumber_46 rfl rfl ?_
            refine g_imul (n := 49) C dX6_expectNumber_48 rfl ?_
            refine g_aload_n (n := 50) C dX6_expectNumber_49 rfl rfl ?_
            refine l_get (n := 53) (T := TX6) C 0 0 dX6_expectNumber_50 rfl A0 rfl rfl rfl (by decide) inX6 w_538 rfl ?_
            refine g_iload_n (n := 54) C dX6_expectNumber_53 rfl rfl ?_
            refine g_callV (n := 57) (As := [.int _]) C dX6_expectNumber_54 rfl mw_X9_byteAt w_534 (g_recv C (lnb ht (by exact htr)) rfl) rfl rfl (room hR rfl) (cc_tby (lnb ht (by exact htr)) (lnb hb (by exact hbr)) (p := m) rfl hn (by first | exact i_lt (x := nI n) rfl zc16 hlem (by omega) | omega) ?_)
            refine g_iadd (n := 58) C dX6_expectNumber_57 rfl ?_
            refine g_bipush (n := 60) (v := 48) C dX6_expectNumber_58 rfl (by decide) ?_
            refine g_isub (n := 61) C dX6_expectNumber_60 rfl ?_
            refine g_istore (n := 63) C dX6_expectNumber_61 rfl (by decide) ?_
            refine g_iinc (n := 66) C dX6_expectNumber_63 rfl rfl rfl (by decide) ?_
            refine g_goto (t := 8) C dX6_expectNumber_66 (by decide) ?_
            exact g_lv [0, 1, 2, 3, 4] rfl (ihm (by first | exact i_lt (x := nI n) rfl zc16 hlem (by omega) | omega) _ _ (by omega) ((rsc_s (T := cT B) (by first | exact ⟨i_lt (x := nI n) rfl zc16 hlem (by omega), za27⟩ | exact absurd za27.1 (by decide))).symm.trans er) (nI_1 m) (by rw [Nat.succ_sub hpm, ev]; first | (rw [← rnv_s (nI_sml (k := 6) zc41 hpm (by omega) (by decide)), Nat.add_sub_cancel' hpm]) | exact rnv_0 (Nat.not_lt.mpr (nI_big (k := 6) zc41 hpm (by omega) (by decide)))))
        · --k27.1
          refine g_if_eq (n := 33) (t := 69) C dX6_expectNumber_30 rfl (by decide) (fun zc30 => ?_) (fun zc30 => ?_)
          rotate_left
          · exact absurd zc30 (by decide)
          have ep : m = (rsc (cT B) 48 57 n p) := (rsc_0 (T := cT B) (fun zq => by first | exact absurd zq.1 (by omega) | (have := i_eq (x := nI n) rfl zc16 hlem (by omega); have := zq.1; omega) | exact zb27 zq.2)).symm.trans er
          rw [ev, ep]
          exact g_lv [0, 1, 2, 3, 4] rfl kj
  exact g_lv [0, 1, 2, 3, 4] rfl (lp _ (hp4) _ _ (Nat.le_refl _) rfl rfl (by rw [Nat.sub_self]; rfl))
