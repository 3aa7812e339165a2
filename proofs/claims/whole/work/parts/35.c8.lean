theorem dX0_partPrice_0 : decode cX0_partPrice 0 = .ok (.aload 4, 2) := by decide +kernel
theorem dX0_partPrice_2 : decode cX0_partPrice 2 = .ok (.iconst 0, 1) := by decide +kernel
theorem dX0_partPrice_3 : decode cX0_partPrice 3 = .ok (.aload_n 0, 1) := by decide +kernel
theorem dX0_partPrice_4 : decode cX0_partPrice 4 = .ok (.getfield 29, 3) := by decide +kernel
theorem dX0_partPrice_7 : decode cX0_partPrice 7 = .ok (.ifCond .eq 11, 3) := by decide +kernel
theorem dX0_partPrice_10 : decode cX0_partPrice 10 = .ok (.iload_n 1, 1) := by decide +kernel
theorem dX0_partPrice_11 : decode cX0_partPrice 11 = .ok (.iload_n 2, 1) := by decide +kernel
theorem dX0_partPrice_12 : decode cX0_partPrice 12 = .ok (.invokestatic 56, 3) := by decide +kernel
theorem dX0_partPrice_15 : decode cX0_partPrice 15 = .ok (.goto 4, 3) := by decide +kernel
theorem dX0_partPrice_18 : decode cX0_partPrice 18 = .ok (.iconst 0, 1) := by decide +kernel
theorem dX0_partPrice_19 : decode cX0_partPrice 19 = .ok (.iastore, 1) := by decide +kernel
theorem dX0_partPrice_20 : decode cX0_partPrice 20 = .ok (.iload_n 1, 1) := by decide +kernel
theorem dX0_partPrice_21 : decode cX0_partPrice 21 = .ok (.aload 4, 2) := by decide +kernel
theorem dX0_partPrice_23 : decode cX0_partPrice 23 = .ok (.iconst 0, 1) := by decide +kernel
theorem dX0_partPrice_24 : decode cX0_partPrice 24 = .ok (.iaload, 1) := by decide +kernel
theorem dX0_partPrice_25 : decode cX0_partPrice 25 = .ok (.isub, 1) := by decide +kernel
theorem dX0_partPrice_26 : decode cX0_partPrice 26 = .ok (.istore 5, 2) := by decide +kernel
theorem dX0_partPrice_28 : decode cX0_partPrice 28 = .ok (.iconst 0, 1) := by decide +kernel
theorem dX0_partPrice_29 : decode cX0_partPrice 29 = .ok (.aload_n 0, 1) := by decide +kernel
theorem dX0_partPrice_30 : decode cX0_partPrice 30 = .ok (.getfield 46, 3) := by decide +kernel
theorem dX0_partPrice_33 : decode cX0_partPrice 33 = .ok (.iload_n 3, 1) := by decide +kernel
theorem dX0_partPrice_34 : decode cX0_partPrice 34 = .ok (.isub, 1) := by decide +kernel
theorem dX0_partPrice_35 : decode cX0_partPrice 35 = .ok (.invokestatic 61, 3) := by decide +kernel
theorem dX0_partPrice_38 : decode cX0_partPrice 38 = .ok (.istore 6, 2) := by decide +kernel
theorem dX0_partPrice_40 : decode cX0_partPrice 40 = .ok (.aload 4, 2) := by decide +kernel
theorem dX0_partPrice_42 : decode cX0_partPrice 42 = .ok (.iconst 1, 1) := by decide +kernel
theorem dX0_partPrice_43 : decode cX0_partPrice 43 = .ok (.aload_n 0, 1) := by decide +kernel
theorem dX0_partPrice_44 : decode cX0_partPrice 44 = .ok (.iload 5, 2) := by decide +kernel
theorem dX0_partPrice_46 : decode cX0_partPrice 46 = .ok (.iconst 1, 1) := by decide +kernel
theorem dX0_partPrice_47 : decode cX0_partPrice 47 = .ok (.invokevirtual 64, 3) := by decide +kernel
theorem dX0_partPrice_50 : decode cX0_partPrice 50 = .ok (.iastore, 1) := by decide +kernel
theorem dX0_partPrice_51 : decode cX0_partPrice 51 = .ok (.aload 4, 2) := by decide +kernel
theorem dX0_partPrice_53 : decode cX0_partPrice 53 = .ok (.iconst 2, 1) := by decide +kernel
theorem dX0_partPrice_54 : decode cX0_partPrice 54 = .ok (.aload_n 0, 1) := by decide +kernel
theorem dX0_partPrice_55 : decode cX0_partPrice 55 = .ok (.iload 5, 2) := by decide +kernel
theorem dX0_partPrice_57 : decode cX0_partPrice 57 = .ok (.iconst 2, 1) := by decide +kernel
theorem dX0_partPrice_58 : decode cX0_partPrice 58 = .ok (.invokevirtual 64, 3) := by decide +kernel
theorem dX0_partPrice_61 : decode cX0_partPrice 61 = .ok (.iastore, 1) := by decide +kernel
theorem dX0_partPrice_62 : decode cX0_partPrice 62 = .ok (.aload 4, 2) := by decide +kernel
theorem dX0_partPrice_64 : decode cX0_partPrice 64 = .ok (.iconst 3, 1) := by decide +kernel
theorem dX0_partPrice_65 : decode cX0_partPrice 65 = .ok (.aload_n 0, 1) := by decide +kernel
theorem dX0_partPrice_66 : decode cX0_partPrice 66 = .ok (.iload 5, 2) := by decide +kernel
theorem dX0_partPrice_68 : decode cX0_partPrice 68 = .ok (.iconst 3, 1) := by decide +kernel
theorem dX0_partPrice_69 : decode cX0_partPrice 69 = .ok (.invokevirtual 64, 3) := by decide +kernel
theorem dX0_partPrice_72 : decode cX0_partPrice 72 = .ok (.iload 6, 2) := by decide +kernel
theorem dX0_partPrice_74 : decode cX0_partPrice 74 = .ok (.invokestatic 56, 3) := by decide +kernel
theorem dX0_partPrice_77 : decode cX0_partPrice 77 = .ok (.iastore, 1) := by decide +kernel
theorem dX0_partPrice_78 : decode cX0_partPrice 78 = .ok (.aload 4, 2) := by decide +kernel
theorem dX0_partPrice_80 : decode cX0_partPrice 80 = .ok (.iconst 5, 1) := by decide +kernel
theorem dX0_partPrice_81 : decode cX0_partPrice 81 = .ok (.aload_n 0, 1) := by decide +kernel
theorem dX0_partPrice_82 : decode cX0_partPrice 82 = .ok (.iload 5, 2) := by decide +kernel
theorem dX0_partPrice_84 : decode cX0_partPrice 84 = .ok (.iconst 5, 1) := by decide +kernel
theorem dX0_partPrice_85 : decode cX0_partPrice 85 = .ok (.invokevirtual 64, 3) := by decide +kernel
theorem dX0_partPrice_88 : decode cX0_partPrice 88 = .ok (.iastore, 1) := by decide +kernel
theorem dX0_partPrice_89 : decode cX0_partPrice 89 = .ok (.aload 4, 2) := by decide +kernel
theorem dX0_partPrice_91 : decode cX0_partPrice 91 = .ok (.iconst 4, 1) := by decide +kernel
theorem dX0_partPrice_92 : decode cX0_partPrice 92 = .ok (.iload 5, 2) := by decide +kernel
theorem dX0_partPrice_94 : decode cX0_partPrice 94 = .ok (.aload 4, 2) := by decide +kernel
theorem dX0_partPrice_96 : decode cX0_partPrice 96 = .ok (.iconst 1, 1) := by decide +kernel
theorem dX0_partPrice_97 : decode cX0_partPrice 97 = .ok (.iaload, 1) := by decide +kernel
theorem dX0_partPrice_98 : decode cX0_partPrice 98 = .ok (.isub, 1) := by decide +kernel
theorem dX0_partPrice_99 : decode cX0_partPrice 99 = .ok (.aload 4, 2) := by decide +kernel
theorem dX0_partPrice_101 : decode cX0_partPrice 101 = .ok (.iconst 2, 1) := by decide +kernel
theorem dX0_partPrice_102 : decode cX0_partPrice 102 = .ok (.iaload, 1) := by decide +kernel
theorem dX0_partPrice_103 : decode cX0_partPrice 103 = .ok (.isub, 1) := by decide +kernel
theorem dX0_partPrice_104 : decode cX0_partPrice 104 = .ok (.aload 4, 2) := by decide +kernel
theorem dX0_partPrice_106 : decode cX0_partPrice 106 = .ok (.iconst 3, 1) := by decide +kernel
theorem dX0_partPrice_107 : decode cX0_partPrice 107 = .ok (.iaload, 1) := by decide +kernel
theorem dX0_partPrice_108 : decode cX0_partPrice 108 = .ok (.isub, 1) := by decide +kernel
theorem dX0_partPrice_109 : decode cX0_partPrice 109 = .ok (.aload 4, 2) := by decide +kernel
theorem dX0_partPrice_111 : decode cX0_partPrice 111 = .ok (.iconst 5, 1) := by decide +kernel
theorem dX0_partPrice_112 : decode cX0_partPrice 112 = .ok (.iaload, 1) := by decide +kernel
theorem dX0_partPrice_113 : decode cX0_partPrice 113 = .ok (.isub, 1) := by decide +kernel
theorem dX0_partPrice_114 : decode cX0_partPrice 114 = .ok (.iastore, 1) := by decide +kernel
theorem dX0_partPrice_115 : decode cX0_partPrice 115 = .ok (.return_, 1) := by decide +kernel
set_option maxHeartbeats 2000000 in
set_option maxRecDepth 20000 in
theorem cc_partPrice {l : Launch} {E : Ev} {P : Value → AH → Prop}  {a u w : Nat} {cf un x co lh : Int32} {H S : Nat → Int32} {h : AH} (ha : h a = some (.inr (1, [.ref u, .int cf, .int un]))) (hu : h u = some (.inl (E.2.2 1, 6, .inl H))) (haw : a ∉ [w]) (huw : u ∉ [w]) (hp : ∀ S9 : Nat → Int32, (∀ k, k < 6 → S9 k = cpr H cf un x co lh k) → P .null (LW [(w, .inl (E.2.2 1, 6, .inl S9))] h)) : Mt l E yX0_partPrice cX0_partPrice 7 none 1 22 0 0 [.ref a, .int x, .int co, .int lh, .ref w] (LW [(w, .inl (E.2.2 1, 6, .inl S))] h) P := by
  refine Mt.of (by decide) (Nat.le_of_ble_eq_true rfl) ?_
  intro K hK hR C
  have A0 : lA [(w, (.inl (E.2.2 1, 6, .inl S) : va_E))] := lA_one _ _
  refine g_aload (n := 2) C dX0_partPrice_0 rfl rfl ?_
  refine g_iconst (n := 3) (v := 0) C dX0_partPrice_2 rfl (by decide) ?_
  refine g_aload_n (n := 4) C dX0_partPrice_3 rfl rfl ?_
  refine b_get (n := 7) (T := TX0) 1 C dX0_partPrice_4 rfl ha haw rfl rfl (by decide) inX0 w_180 rfl ?_
  refine g_if_eq (n := 10) (t := 18) C dX0_partPrice_7 rfl (by decide) (fun zc7 => ?_) (fun zc7 => ?_)
  · --t7
    refine g_iconst (n := 19) (v := 0) C dX0_partPrice_18 rfl (by decide) ?_
    refine l_iast (n := 20) 0 (0) C dX0_partPrice_19 rfl A0 rfl rfl (by decide) (by decide) ?_
    dsimp only [List.set]
    refine g_iload_n (n := 21) C dX0_partPrice_20 rfl rfl ?_
    refine g_aload (n := 23) C dX0_partPrice_21 rfl rfl ?_
    refine g_iconst (n := 24) (v := 0) C dX0_partPrice_23 rfl (by decide) ?_
    refine l_iald (n := 25) 0 (0) C dX0_partPrice_24 rfl A0 rfl rfl (by decide) (by decide) (rfl) ?_
    refine g_isub (n := 26) C dX0_partPrice_25 rfl ?_
    refine g_istore (n := 28) C dX0_partPrice_26 rfl (by decide) ?_
    refine g_iconst (n := 29) (v := 0) C dX0_partPrice_28 rfl (by decide) ?_
    refine g_aload_n (n := 30) C dX0_partPrice_29 rfl rfl ?_
    refine b_get (n := 33) (T := TX0) 2 C dX0_partPrice_30 rfl ha haw rfl rfl (by decide) inX0 w_181 rfl ?_
    refine g_iload_n (n := 34) C dX0_partPrice_33 rfl rfl ?_
    refine g_isub (n := 35) C dX0_partPrice_34 rfl ?_
    refine g_max (n := 38) C dX0_partPrice_35 rfl mwM_max w_1053 (roomM hR rfl) ?_
    refine g_istore (n := 40) C dX0_partPrice_38 rfl (by decide) ?_
    refine g_aload (n := 42) C dX0_partPrice_40 rfl rfl ?_
    refine g_iconst (n := 43) (v := 1) C dX0_partPrice_42 rfl (by decide) ?_
    refine g_aload_n (n := 44) C dX0_partPrice_43 rfl rfl ?_
    refine g_iload (n := 46) C dX0_partPrice_44 rfl rfl ?_
    refine g_iconst (n := 47) (v := 1) C dX0_partPrice_46 rfl (by decide) ?_
    refine g_callV (n := 50) (As := [.int _, .int _]) C dX0_partPrice_47 rfl mw_X0_shareOf w_1054 (g_recv C (lnb ha (by exact haw)) rfl) rfl rfl (room hR rfl) (cc_shareOf (lnb ha (by exact haw)) (lnb hu (by exact huw)) (k := 1) (by decide) ?_)
    refine l_iast (n := 51) 0 (1) C dX0_partPrice_50 rfl A0 rfl rfl (by decide) (by decide) ?_
    dsimp only [List.set]
    refine g_aload (n := 53) C dX0_partPrice_51 rfl rfl ?_
    refine g_iconst (n := 54) (v := 2) C dX0_partPrice_53 rfl (by decide) ?_
    refine g_aload_n (n := 55) C dX0_partPrice_54 rfl rfl ?_
    refine g_iload (n := 57) C dX0_partPrice_55 rfl rfl ?_
    refine g_iconst (n := 58) (v := 2) C dX0_partPrice_57 rfl (by decide) ?_
    refine g_callV (n := 61) (As := [.int _, .int _]) C dX0_partPrice_58 rfl mw_X0_shareOf w_1054 (g_recv C (lnb ha (by exact haw)) rfl) rfl rfl (room hR rfl) (cc_shareOf (lnb ha (by exact haw)) (lnb hu (by exact huw)) (k := 2) (by decide) ?_)
    refine l_iast (n := 62) 0 (2) C dX0_partPrice_61 rfl A0 rfl rfl (by decide) (by decide) ?_
    dsimp only [List.set]
    refine g_aload (n := 64) C dX0_partPrice_62 rfl rfl ?_
    refine g_iconst (n := 65) (v := 3) C dX0_partPrice_64 rfl (by decide) ?_
    refine g_aload_n (n := 66) C dX0_partPrice_65 rfl rfl ?_
    refine g_iload (n := 68) C dX0_partPrice_66 rfl rfl ?_
    refine g_iconst (n := 69) (v := 3) C dX0_partPrice_68 rfl (by decide) ?_
    refine g_callV (n := 72) (As := [.int _, .int _]) C dX0_partPrice_69 rfl mw_X0_shareOf w_1054 (g_recv C (lnb ha (by exact haw)) rfl) rfl rfl (room hR rfl) (cc_shareOf (lnb ha (by exact haw)) (lnb hu (by exact huw)) (k := 3) (by decide) ?_)
    refine g_iload (n := 74) C dX0_partPrice_72 rfl rfl ?_
    refine g_min (n := 77) C dX0_partPrice_74 rfl mwM_min w_1052 (roomM hR rfl) ?_
    refine l_iast (n := 78) 0 (3) C dX0_partPrice_77 rfl A0 rfl rfl (by decide) (by decide) ?_
    dsimp only [List.set]
    refine g_aload (n := 80) C dX0_partPrice_78 rfl rfl ?_
    refine g_iconst (n := 81) (v := 5) C dX0_partPrice_80 rfl (by decide) ?_
    refine g_aload_n (n := 82) C dX0_partPrice_81 rfl rfl ?_
    refine g_iload (n := 84) C dX0_partPrice_82 rfl rfl ?_
    refine g_iconst (n := 85) (v := 5) C dX0_partPrice_84 rfl (by decide) ?_
    refine g_callV (n := 88) (As := [.int _, .int _]) C dX0_partPrice_85 rfl mw_X0_shareOf w_1054 (g_recv C (lnb ha (by exact haw)) rfl) rfl rfl (room hR rfl) (cc_shareOf (lnb ha (by exact haw)) (lnb hu (by exact huw)) (k := 5) (by decide) ?_)
    refine l_iast (n := 89) 0 (5) C dX0_partPrice_88 rfl A0 rfl rfl (by decide) (by decide) ?_
    dsimp only [List.set]
    refine g_aload (n := 91) C dX0_partPrice_89 rfl rfl ?_
    refine g_iconst (n := 92) (v := 4) C dX0_partPrice_91 rfl (by decide) ?_
    refine g_iload (n := 94) C dX0_partPrice_92 rfl rfl ?_
    refine g_aload (n := 96) C dX0_partPrice_94 rfl rfl ?_
    refine g_iconst (n := 97) (v := 1) C dX0_partPrice_96 rfl (by decide) ?_
    refine l_iald (n := 98) 0 (1) C dX0_partPrice_97 rfl A0 rfl rfl (by decide) (by decide) (rfl) ?_
    refine g_isub (n := 99) C dX0_partPrice_98 rfl ?_
    refine g_aload (n := 101) C dX0_partPrice_99 rfl rfl ?_
    refine g_iconst (n := 102) (v := 2) C dX0_partPrice_101 rfl (by decide) ?_
    refine l_iald (n := 103) 0 (2) C dX0_partPrice_102 rfl A0 rfl rfl (by decide) (by decide) (rfl) ?_
    refine g_isub (n := 104) C dX0_partPrice_103 rfl ?_
    refine g_aload (n := 106) C dX0_partPrice_104 rfl rfl ?_
    refine g_iconst (n := 107) (v := 3) C dX0_partPrice_106 rfl (by decide) ?_
    refine l_iald (n := 108) 0 (3) C dX0_partPrice_107 rfl A0 rfl rfl (by decide) (by decide) (rfl) ?_
    refine g_isub (n := 109) C dX0_partPrice_108 rfl ?_
    refine g_aload (n := 111) C dX0_partPrice_109 rfl rfl ?_
    refine g_iconst (n := 112) (v := 5) C dX0_partPrice_111 rfl (by decide) ?_
    refine l_iald (n := 113) 0 (5) C dX0_partPrice_112 rfl A0 rfl rfl (by decide) (by decide) (rfl) ?_
    refine g_isub (n := 114) C dX0_partPrice_113 rfl ?_
    refine l_iast (n := 115) 0 (4) C dX0_partPrice_114 rfl A0 rfl rfl (by decide) (by decide) ?_
    dsimp only [List.set]
    refine g_vret C dX0_partPrice_115 (by decide) (by decide) ?_
    refine hp _ (fun k hk => ?_)
    have hc : cp0 cf x co = if cf = 0 then 0 else imin x co := rfl
    first | rw [if_pos zc7] at hc | rw [if_neg zc7] at hc
    match k, hk with
    | 0, _ => show _ = cp0 cf x co; rw [hc]; rfl
    | 1, _ => show _ = csh H (x - cp0 cf x co) 1; rw [hc]; rfl
    | 2, _ => show _ = csh H (x - cp0 cf x co) 2; rw [hc]; rfl
    | 3, _ => show _ = cp3 H un lh (x - cp0 cf x co); rw [hc]; rfl
    | 4, _ => show _ = cp4 H un lh (x - cp0 cf x co); rw [hc]; rfl
    | 5, _ => show _ = csh H (x - cp0 cf x co) 5; rw [hc]; rfl
  · --f7
    refine g_iload_n (n := 11) C dX0_partPrice_10 rfl rfl ?_
    refine g_iload_n (n := 12) C dX0_partPrice_11 rfl rfl ?_
    refine g_min (n := 15) C dX0_partPrice_12 rfl mwM_min w_1052 (roomM hR rfl) ?_
    refine g_goto (t := 19) C dX0_partPrice_15 (by decide) ?_
    refine l_iast (n := 20) 0 (0) C dX0_partPrice_19 rfl A0 rfl rfl (by decide) (by decide) ?_
    dsimp only [List.set]
    refine g_iload_n (n := 21) C dX0_partPrice_20 rfl rfl ?_
    refine g_aload (n := 23) C dX0_partPrice_21 rfl rfl ?_
    refine g_iconst (n := 24) (v := 0) C dX0_partPrice_23 rfl (by decide) ?_
    refine l_iald (n := 25) 0 (0) C dX0_partPrice_24 rfl A0 rfl rfl (by decide) (by decide) (rfl) ?_
    refine g_isub (n := 26) C dX0_partPrice_25 rfl ?_
    refine g_istore (n := 28) C dX0_partPrice_26 rfl (by decide) ?_
    refine g_iconst (n := 29) (v := 0) C dX0_partPrice_28 rfl (by decide) ?_
    refine g_aload_n (n := 30) C dX0_partPrice_29 rfl rfl ?_
    refine b_get (n := 33) (T := TX0) 2 C dX0_partPrice_30 rfl ha haw rfl rfl (by decide) inX0 w_181 rfl ?_
    refine g_iload_n (n := 34) C dX0_partPrice_33 rfl rfl ?_
    refine g_isub (n := 35) C dX0_partPrice_34 rfl ?_
    refine g_max (n := 38) C dX0_partPrice_35 rfl mwM_max w_1053 (roomM hR rfl) ?_
    refine g_istore (n := 40) C dX0_partPrice_38 rfl (by decide) ?_
    refine g_aload (n := 42) C dX0_partPrice_40 rfl rfl ?_
    refine g_iconst (n := 43) (v := 1) C dX0_partPrice_42 rfl (by decide) ?_
    refine g_aload_n (n := 44) C dX0_partPrice_43 rfl rfl ?_
    refine g_iload (n := 46) C dX0_partPrice_44 rfl rfl ?_
    refine g_iconst (n := 47) (v := 1) C dX0_partPrice_46 rfl (by decide) ?_
    refine g_callV (n := 50) (As := [.int _, .int _]) C dX0_partPrice_47 rfl mw_X0_shareOf w_1054 (g_recv C (lnb ha (by exact haw)) rfl) rfl rfl (room hR rfl) (cc_shareOf (lnb ha (by exact haw)) (lnb hu (by exact huw)) (k := 1) (by decide) ?_)
    refine l_iast (n := 51) 0 (1) C dX0_partPrice_50 rfl A0 rfl rfl (by decide) (by decide) ?_
    dsimp only [List.set]
    refine g_aload (n := 53) C dX0_partPrice_51 rfl rfl ?_
    refine g_iconst (n := 54) (v := 2) C dX0_partPrice_53 rfl (by decide) ?_
    refine g_aload_n (n := 55) C dX0_partPrice_54 rfl rfl ?_
    refine g_iload (n := 57) C dX0_partPrice_55 rfl rfl ?_
    refine g_iconst (n := 58) (v := 2) C dX0_partPrice_57 rfl (by decide) ?_
    refine g_callV (n := 61) (As := [.int _, .int _]) C dX0_partPrice_58 rfl mw_X0_shareOf w_1054 (g_recv C (lnb ha (by exact haw)) rfl) rfl rfl (room hR rfl) (cc_shareOf (lnb ha (by exact haw)) (lnb hu (by exact huw)) (k := 2) (by decide) ?_)
    refine l_iast (n := 62) 0 (2) C dX0_partPrice_61 rfl A0 rfl rfl (by decide) (by decide) ?_
    dsimp only [List.set]
    refine g_aload (n := 64) C dX0_partPrice_62 rfl rfl ?_
    refine g_iconst (n := 65) (v := 3) C dX0_partPrice_64 rfl (by decide) ?_
    refine g_aload_n (n := 66) C dX0_partPrice_65 rfl rfl ?_
    refine g_iload (n := 68) C dX0_partPrice_66 rfl rfl ?_
    refine g_iconst (n := 69) (v := 3) C dX0_partPrice_68 rfl (by decide) ?_
    refine g_callV (n := 72) (As := [.int _, .int _]) C dX0_partPrice_69 rfl mw_X0_shareOf w_1054 (g_recv C (lnb ha (by exact haw)) rfl) rfl rfl (room hR rfl) (cc_shareOf (lnb ha (by exact haw)) (lnb hu (by exact huw)) (k := 3) (by decide) ?_)
    refine g_iload (n := 74) C dX0_partPrice_72 rfl rfl ?_
    refine g_min (n := 77) C dX0_partPrice_74 rfl mwM_min w_1052 (roomM hR rfl) ?_
    refine l_iast (n := 78) 0 (3) C dX0_partPrice_77 rfl A0 rfl rfl (by decide) (by decide) ?_
    dsimp only [List.set]
    refine g_aload (n := 80) C dX0_partPrice_78 rfl rfl ?_
    refine g_iconst (n := 81) (v := 5) C dX0_partPrice_80 rfl (by decide) ?_
    refine g_aload_n (n := 82) C dX0_partPrice_81 rfl rfl ?_
    refine g_iload (n := 84) C dX0_partPrice_82 rfl rfl ?_
    refine g_iconst (n := 85) (v := 5) C dX0_partPrice_84 rfl (by decide) ?_
    refine g_callV (n := 88) (As := [.int _, .int _]) C dX0_partPrice_85 rfl mw_X0_shareOf w_1054 (g_recv C (lnb ha (by exact haw)) rfl) rfl rfl (room hR rfl) (cc_shareOf (lnb ha (by exact haw)) (lnb hu (by exact huw)) (k := 5) (by decide) ?_)
    refine l_iast (n := 89) 0 (5) C dX0_partPrice_88 rfl A0 rfl rfl (by decide) (by decide) ?_
    dsimp only [List.set]
    refine g_aload (n := 91) C dX0_partPrice_89 rfl rfl ?_
    refine g_iconst (n := 92) (v := 4) C dX0_partPrice_91 rfl (by decide) ?_
    refine g_iload (n := 94) C dX0_partPrice_92 rfl rfl ?_
    refine g_aload (n := 96) C dX0_partPrice_94 rfl rfl ?_
    refine g_iconst (n := 97) (v := 1) C dX0_partPrice_96 rfl (by decide) ?_
    refine l_iald (n := 98) 0 (1) C dX0_partPrice_97 rfl A0 rfl rfl (by decide) (by decide) (rfl) ?_
    refine g_isub (n := 99) C dX0_partPrice_98 rfl ?_
    refine g_aload (n := 101) C dX0_partPrice_99 rfl rfl ?_
    refine g_iconst (n := 102) (v := 2) C dX0_partPrice_101 rfl (by decide) ?_
    refine l_iald (n := 103) 0 (2) C dX0_partPrice_102 rfl A0 rfl rfl (by decide) (by decide) (rfl) ?_
    refine g_isub (n := 104) C dX0_partPrice_103 rfl ?_
    refine g_aload (n := 106) C dX0_partPrice_104 rfl rfl ?_
    refine g_iconst (n := 107) (v := 3) C dX0_partPrice_106 rfl (by decide) ?_
    refine l_iald (n := 108) 0 (3) C dX0_partPrice_107 rfl A0 rfl rfl (by decide) (by decide) (rfl) ?_
    refine g_isub (n := 109) C dX0_partPrice_108 rfl ?_
    refine g_aload (n := 111) C dX0_partPrice_109 rfl rfl ?_
    refine g_iconst (n := 112) (v := 5) C dX0_partPrice_111 rfl (by decide) ?_
    refine l_iald (n := 113) 0 (5) C dX0_partPrice_112 rfl A0 rfl rfl (by decide) (by decide) (rfl) ?_
    refine g_isub (n := 114) C dX0_partPrice_113 rfl ?_
    refine l_iast (n := 115) 0 (4) C dX0_partPrice_114 rfl A0 rfl rfl (by decide) (by decide) ?_
    dsimp only [List.set]
    refine g_vret C dX0_partPrice_115 (by decide) (by decide) ?_
    refine hp _ (fun k hk => ?_)
    have hc : cp0 cf x co = if cf = 0 then 0 else imin x co := rfl
    first | rw [if_pos zc7] at hc | rw [if_neg zc7] at hc
    match k, hk with
    | 0, _ => show _ = cp0 cf x co; rw [hc]; rfl
    | 1, _ => show _ = csh H (x - cp0 cf x co) 1; rw [hc]; rfl
    | 2, _ => show _ = csh H (x - cp0 cf x co) 2; rw [hc]; rfl
    | 3, _ => show _ = cp3 H un lh (x - cp0 cf x co); rw [hc]; rfl
    | 4, _ => show _ = cp4 H un lh (x - cp0 cf x co); rw [hc]; rfl
    | 5, _ => show _ = csh H (x - cp0 cf x co) 5; rw [hc]; rfl
