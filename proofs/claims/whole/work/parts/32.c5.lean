theorem LW_under {L : List (Nat × va_E)} {h : AH} {a : Nat} {e : va_E} (hb : a ∉ L.map Prod.fst) : hset (LW L h) a e = LW L (hset h a e) := by
  funext b
  unfold hset LW
  by_cases c : b = a
  · subst c
    rw [if_pos rfl, List.find?_eq_none.mpr (fun q hq => by
      have : q.1 ≠ b := fun e => hb (List.mem_map.mpr ⟨q, hq, e⟩)
      simpa using this)]
    simp
  · rw [if_neg c]
    cases f : L.find? (fun q => q.1 == b) with
    | some q => rfl
    | none => simp [c]
section BROWS2
variable {K : Cx} {E : Ev} {cc : ByteArray} {nL : Nat} {own : String} {ret : Option FieldType} {nm : String} {Q : State → Prop} {cs ss pc : Nat} {lv : List (Nat × Value)} {st : List Value} {h : AH}
/-- .. a field of a thing under the layer is set -/
theorem b_put {n a ci index : Nat} {ref Cn : String} {T : u_T} {N : Nat} {fs : List Value} {v : Value} {ty : FieldType} {ty0 : Nat → FieldType} {L : List (Nat × va_E)} (f : Nat) (C : GX K E cc nL own ret nm) (hd : decode cc pc = .ok (.putfield index, 3)) (hn : pc + 3 = n) (he : h a = some (.inr (ci, fs))) (hb : a ∉ L.map Prod.fst) (hc : vwCl[ci]? = some (Cn, T, N)) (hk : f < N) (hin : ∀ w ∈ u_ws Cn T N, w ∈ GW) (hlink : Cond.fieldLink own index ref (T f).2.1 (T f).2.2.1 ∈ GW) (href : (T f).1 = ref) (hty : ∀ k, k < N → parseFieldDescriptor (T k).2.2.1 = some (ty0 k)) (hnm : ∀ a, a < N → ∀ b, b < N → a ≠ b → (T a).2.1 ≠ (T b).2.1) (hfin : (T f).2.2.2 = false) (hdt : ty0 f = ty) (hnar : narrow ty v = v) (hfit : fits ty v = true) (hl : f < fs.length) (k : G K E nL Q cs ss n lv st (LW L (hset h a (.inr (ci, fs.set f v))))) : G K E nL Q cs ss pc lv (v :: .ref a :: st) (LW L h) :=
  g_put C f hd hn ((LW_nb hb).trans he) hc hk hin hlink href hty hnm hfin hdt hnar hfit hl (by rw [LW_under hb]; exact k)
end BROWS2
theorem dX3_readClause_0 : decode cX3_readClause 0 = .ok (.aload_n 1, 1) := by decide +kernel
theorem dX3_readClause_1 : decode cX3_readClause 1 = .ok (.ldc 20, 2) := by decide +kernel
theorem dX3_readClause_3 : decode cX3_readClause 3 = .ok (.invokevirtual 21, 3) := by decide +kernel
theorem dX3_readClause_6 : decode cX3_readClause 6 = .ok (.ifCond .eq 17, 3) := by decide +kernel
theorem dX3_readClause_9 : decode cX3_readClause 9 = .ok (.aload_n 0, 1) := by decide +kernel
theorem dX3_readClause_10 : decode cX3_readClause 10 = .ok (.aload_n 1, 1) := by decide +kernel
theorem dX3_readClause_11 : decode cX3_readClause 11 = .ok (.iconst 0, 1) := by decide +kernel
theorem dX3_readClause_12 : decode cX3_readClause 12 = .ok (.bipush 11, 2) := by decide +kernel
theorem dX3_readClause_14 : decode cX3_readClause 14 = .ok (.invokevirtual 27, 3) := by decide +kernel
theorem dX3_readClause_17 : decode cX3_readClause 17 = .ok (.putfield 7, 3) := by decide +kernel
theorem dX3_readClause_20 : decode cX3_readClause 20 = .ok (.goto 54, 3) := by decide +kernel
theorem dX3_readClause_23 : decode cX3_readClause 23 = .ok (.aload_n 1, 1) := by decide +kernel
theorem dX3_readClause_24 : decode cX3_readClause 24 = .ok (.ldc 31, 2) := by decide +kernel
theorem dX3_readClause_26 : decode cX3_readClause 26 = .ok (.invokevirtual 21, 3) := by decide +kernel
theorem dX3_readClause_29 : decode cX3_readClause 29 = .ok (.ifCond .eq 18, 3) := by decide +kernel
theorem dX3_readClause_32 : decode cX3_readClause 32 = .ok (.aload_n 0, 1) := by decide +kernel
theorem dX3_readClause_33 : decode cX3_readClause 33 = .ok (.aload_n 1, 1) := by decide +kernel
theorem dX3_readClause_34 : decode cX3_readClause 34 = .ok (.iconst 1, 1) := by decide +kernel
theorem dX3_readClause_35 : decode cX3_readClause 35 = .ok (.sipush 1000, 3) := by decide +kernel
theorem dX3_readClause_38 : decode cX3_readClause 38 = .ok (.invokevirtual 27, 3) := by decide +kernel
theorem dX3_readClause_41 : decode cX3_readClause 41 = .ok (.putfield 13, 3) := by decide +kernel
theorem dX3_readClause_44 : decode cX3_readClause 44 = .ok (.goto 30, 3) := by decide +kernel
theorem dX3_readClause_47 : decode cX3_readClause 47 = .ok (.aload_n 1, 1) := by decide +kernel
theorem dX3_readClause_48 : decode cX3_readClause 48 = .ok (.ldc 33, 2) := by decide +kernel
theorem dX3_readClause_50 : decode cX3_readClause 50 = .ok (.invokevirtual 21, 3) := by decide +kernel
theorem dX3_readClause_53 : decode cX3_readClause 53 = .ok (.ifCond .eq 17, 3) := by decide +kernel
theorem dX3_readClause_56 : decode cX3_readClause 56 = .ok (.aload_n 0, 1) := by decide +kernel
theorem dX3_readClause_57 : decode cX3_readClause 57 = .ok (.aload_n 1, 1) := by decide +kernel
theorem dX3_readClause_58 : decode cX3_readClause 58 = .ok (.iconst 0, 1) := by decide +kernel
theorem dX3_readClause_59 : decode cX3_readClause 59 = .ok (.ldc 34, 2) := by decide +kernel
theorem dX3_readClause_61 : decode cX3_readClause 61 = .ok (.invokevirtual 27, 3) := by decide +kernel
theorem dX3_readClause_64 : decode cX3_readClause 64 = .ok (.putfield 16, 3) := by decide +kernel
theorem dX3_readClause_67 : decode cX3_readClause 67 = .ok (.goto 7, 3) := by decide +kernel
theorem dX3_readClause_70 : decode cX3_readClause 70 = .ok (.aload_n 1, 1) := by decide +kernel
theorem dX3_readClause_71 : decode cX3_readClause 71 = .ok (.invokevirtual 35, 3) := by decide +kernel
theorem dX3_readClause_74 : decode cX3_readClause 74 = .ok (.return_, 1) := by decide +kernel
set_option maxHeartbeats 2000000 in
set_option maxRecDepth 20000 in
theorem cc_lawClause {l : Launch} {E : Ev} {P : Value → AH → Prop}  {r t b n a : Nat} {B : Nat → Int32} {ff : Int32} {h : AH} (ht : h t = some (.inr (9, [.ref b, .int (nI n)]))) (hb : h b = some (.inl (E.2.2 0, 400, .inl B))) (hn : n ≤ 400) (htr : t ∉ [r]) (hbr : b ∉ [r]) (har : a ∉ [r]) {p : Nat} (hp4 : p ≤ n) {ap fd bo : Int32} (ha : h a = some (.inr (3, [.int ap, .int fd, .int bo]))) (k01 : rwd (cT B) p (rsc (cT B) 97 122 n p) 0 → rnok (cT B) (cbl B n (rsc (cT B) 97 122 n p)) (rsc (cT B) 48 57 n (cbl B n (rsc (cT B) 97 122 n p))) 0 11 → P .null (LW [(r, .inr (6, [.ref t, .int (nI (cbl B n (rsc (cT B) 48 57 n (cbl B n (rsc (cT B) 97 122 n p))))), .int ff]))] (hset h a (.inr (3, [.int (rnv (cT B) (cbl B n (rsc (cT B) 97 122 n p)) ((rsc (cT B) 48 57 n (cbl B n (rsc (cT B) 97 122 n p))) - (cbl B n (rsc (cT B) 97 122 n p)))), .int fd, .int bo]))))) (k00 : rwd (cT B) p (rsc (cT B) 97 122 n p) 0 → ¬ rnok (cT B) (cbl B n (rsc (cT B) 97 122 n p)) (rsc (cT B) 48 57 n (cbl B n (rsc (cT B) 97 122 n p))) 0 11 → P .null (LW [(r, .inr (6, [.ref t, .int (nI (cbl B n (rsc (cT B) 97 122 n p))), .int (cff ff (nI (cbl B n (rsc (cT B) 97 122 n p))))]))] (hset h a (.inr (3, [.int (-1), .int fd, .int bo]))))) (k11 : ¬ rwd (cT B) p (rsc (cT B) 97 122 n p) 0 → rwd (cT B) p (rsc (cT B) 97 122 n p) 1 → rnok (cT B) (cbl B n (rsc (cT B) 97 122 n p)) (rsc (cT B) 48 57 n (cbl B n (rsc (cT B) 97 122 n p))) 1 1000 → P .null (LW [(r, .inr (6, [.ref t, .int (nI (cbl B n (rsc (cT B) 48 57 n (cbl B n (rsc (cT B) 97 122 n p))))), .int ff]))] (hset h a (.inr (3, [.int ap, .int (rnv (cT B) (cbl B n (rsc (cT B) 97 122 n p)) ((rsc (cT B) 48 57 n (cbl B n (rsc (cT B) 97 122 n p))) - (cbl B n (rsc (cT B) 97 122 n p)))), .int bo]))))) (k10 : ¬ rwd (cT B) p (rsc (cT B) 97 122 n p) 0 → rwd (cT B) p (rsc (cT B) 97 122 n p) 1 → ¬ rnok (cT B) (cbl B n (rsc (cT B) 97 122 n p)) (rsc (cT B) 48 57 n (cbl B n (rsc (cT B) 97 122 n p))) 1 1000 → P .null (LW [(r, .inr (6, [.ref t, .int (nI (cbl B n (rsc (cT B) 97 122 n p))), .int (cff ff (nI (cbl B n (rsc (cT B) 97 122 n p))))]))] (hset h a (.inr (3, [.int ap, .int (-1), .int bo]))))) (k21 : ¬ rwd (cT B) p (rsc (cT B) 97 122 n p) 0 → ¬ rwd (cT B) p (rsc (cT B) 97 122 n p) 1 → rwd (cT B) p (rsc (cT B) 97 122 n p) 2 → rnok (cT B) (cbl B n (rsc (cT B) 97 122 n p)) (rsc (cT B) 48 57 n (cbl B n (rsc (cT B) 97 122 n p))) 0 100000 → P .null (LW [(r, .inr (6, [.ref t, .int (nI (cbl B n (rsc (cT B) 48 57 n (cbl B n (rsc (cT B) 97 122 n p))))), .int ff]))] (hset h a (.inr (3, [.int ap, .int fd, .int (rnv (cT B) (cbl B n (rsc (cT B) 97 122 n p)) ((rsc (cT B) 48 57 n (cbl B n (rsc (cT B) 97 122 n p))) - (cbl B n (rsc (cT B) 97 122 n p))))]))))) (k20 : ¬ rwd (cT B) p (rsc (cT B) 97 122 n p) 0 → ¬ rwd (cT B) p (rsc (cT B) 97 122 n p) 1 → rwd (cT B) p (rsc (cT B) 97 122 n p) 2 → ¬ rnok (cT B) (cbl B n (rsc (cT B) 97 122 n p)) (rsc (cT B) 48 57 n (cbl B n (rsc (cT B) 97 122 n p))) 0 100000 → P .null (LW [(r, .inr (6, [.ref t, .int (nI (cbl B n (rsc (cT B) 97 122 n p))), .int (cff ff (nI (cbl B n (rsc (cT B) 97 122 n p))))]))] (hset h a (.inr (3, [.int ap, .int fd, .int (-1)]))))) (kn : ¬ rwd (cT B) p (rsc (cT B) 97 122 n p) 0 → ¬ rwd (cT B) p (rsc (cT B) 97 122 n p) 1 → ¬ rwd (cT B) p (rsc (cT B) 97 122 n p) 2 → P .null (LW [(r, .inr (6, [.ref t, .int (nI p), .int (cff ff (nI p))]))] (h))) : Mt l E yX3_readClause cX3_readClause 2 none 5 108 0 0 [.ref a, .ref r] (LW [(r, .inr (6, [.ref t, .int (nI p), .int ff]))] h) P := by
  refine Mt.of (by decide) (Nat.le_of_ble_eq_true rfl) ?_
  intro K hK hR C
  have A0 : lA [(r, (.inr (6, [.ref t, .int (nI p), .int ff]) : va_E))] := lA_one _ _
  refine g_aload_n (n := 1) C dX3_readClause_0 rfl rfl ?_
  refine g_ldcS (n := 3) "apart" 20 C dX3_readClause_1 rfl (by decide) ?_
  refine g_callV (n := 6) (As := [.ref _]) C dX3_readClause_3 rfl mw_X6_takeWord w_643 (fun _ _ hH9 hS9 => g_recv (ci := 6) C (by refine LW_at ?_ 0 rfl; exact A0) rfl _ _ hH9 hS9) rfl rfl (room hR rfl) (cc_take ht hb hn htr hbr hp4 (i := 0) (by decide) (fun za3 => ?_) (fun zb3 => ?_))
  · --k3.0
    refine g_if_eq (n := 9) (t := 23) C dX3_readClause_6 rfl (by decide) (fun zc6 => ?_) (fun zc6 => ?_)
    · exact absurd zc6 (by decide)
    refine g_aload_n (n := 10) C dX3_readClause_9 rfl rfl ?_
    refine g_aload_n (n := 11) C dX3_readClause_10 rfl rfl ?_
    refine g_iconst (n := 12) (v := 0) C dX3_readClause_11 rfl (by decide) ?_
    refine g_bipush (n := 14) (v := 11) C dX3_readClause_12 rfl (by decide) ?_
    refine g_callV (n := 17) (As := [.int _, .int _]) C dX3_readClause_14 rfl mw_X6_expectNumber w_644 (fun _ _ hH9 hS9 => g_recv (ci := 6) C (by refine LW_at ?_ 0 rfl; exact A0) rfl _ _ hH9 hS9) rfl rfl (room hR rfl) (cc_xnum ht hb hn htr hbr (rsc_le (rsc_le hp4)) (fun za14 => ?_) (fun zb14 => ?_))
    · --k14.0
      refine b_put (n := 20) (T := TX3) (ty0 := tyX3) 0 C dX3_readClause_17 rfl ha har rfl (by decide) inX3 w_129 rfl tyX3_ok nmX3 rfl rfl rfl rfl (by show 0 < 3; decide) ?_
      dsimp only [List.set]
      refine g_goto (t := 74) C dX3_readClause_20 (by decide) ?_
      refine g_vret C dX3_readClause_74 (by decide) (by decide) ?_
      first | exact k01 za3 za14 | exact k00 za3 zb14 | exact k11 zb3 za26 za38 | exact k10 zb3 za26 zb38 | exact k21 zb3 zb26 za50 za61 | exact k20 zb3 zb26 za50 zb61 | exact kn zb3 zb26 zb50
    · --k14.1
      refine b_put (n := 20) (T := TX3) (ty0 := tyX3) 0 C dX3_readClause_17 rfl ha har rfl (by decide) inX3 w_129 rfl tyX3_ok nmX3 rfl rfl rfl rfl (by show 0 < 3; decide) ?_
      dsimp only [List.set]
      refine g_goto (t := 74) C dX3_readClause_20 (by decide) ?_
      refine g_vret C dX3_readClause_74 (by decide) (by decide) ?_
      first | exact k01 za3 za14 | exact k00 za3 zb14 | exact k11 zb3 za26 za38 | exact k10 zb3 za26 zb38 | exact k21 zb3 zb26 za50 za61 | exact k20 zb3 zb26 za50 zb61 | exact kn zb3 zb26 zb50
  · --k3.1
    refine g_if_eq (n := 9) (t := 23) C dX3_readClause_6 rfl (by decide) (fun zc6 => ?_) (fun zc6 => ?_)
    rotate_left
    · exact absurd zc6 (by decide)
    refine g_aload_n (n := 24) C dX3_readClause_23 rfl rfl ?_
    refine g_ldcS (n := 26) "fill" 21 C dX3_readClause_24 rfl (by decide) ?_
    refine g_callV (n := 29) (As := [.ref _]) C dX3_readClause_26 rfl mw_X6_takeWord w_643 (fun _ _ hH9 hS9 => g_recv (ci := 6) C (by refine LW_at ?_ 0 rfl; exact A0) rfl _ _ hH9 hS9) rfl rfl (room hR rfl) (cc_take ht hb hn htr hbr hp4 (i := 1) (by decide) (fun za26 => ?_) (fun zb26 => ?_))
    · --k26.0
      refine g_if_eq (n := 32) (t := 47) C dX3_readClause_29 rfl (by decide) (fun zc29 => ?_) (fun zc29 => ?_)
      · exact absurd zc29 (by decide)
      refine g_aload_n (n := 33) C dX3_readClause_32 rfl rfl ?_
      refine g_aload_n (n := 34) C dX3_readClause_33 rfl rfl ?_
      refine g_iconst (n := 35) (v := 1) C dX3_readClause_34 rfl (by decide) ?_
      refine g_sipush (n := 38) (v := 1000) C dX3_readClause_35 rfl (by decide) ?_
      refine g_callV (n := 41) (As := [.int _, .int _]) C dX3_readClause_38 rfl mw_X6_expectNumber w_644 (fun _ _ hH9 hS9 => g_recv (ci := 6) C (by refine LW_at ?_ 0 rfl; exact A0) rfl _ _ hH9 hS9) rfl rfl (room hR rfl) (cc_xnum ht hb hn htr hbr (rsc_le (rsc_le hp4)) (fun za38 => ?_) (fun zb38 => ?_))
      · --k38.0
        refine b_put (n := 44) (T := TX3) (ty0 := tyX3) 1 C dX3_readClause_41 rfl ha har rfl (by decide) inX3 w_131 rfl tyX3_ok nmX3 rfl rfl rfl rfl (by show 1 < 3; decide) ?_
        dsimp only [List.set]
        refine g_goto (t := 74) C dX3_readClause_44 (by decide) ?_
        refine g_vret C dX3_readClause_74 (by decide) (by decide) ?_
        first | exact k01 za3 za14 | exact k00 za3 zb14 | exact k11 zb3 za26 za38 | exact k10 zb3 za26 zb38 | exact k21 zb3 zb26 za50 za61 | exact k20 zb3 zb26 za50 zb61 | exact kn zb3 zb26 zb50
      · --k38.1
        refine b_put (n := 44) (T := TX3) (ty0 := tyX3) 1 C dX3_readClause_41 rfl ha har rfl (by decide) inX3 w_131 rfl tyX3_ok nmX3 rfl rfl rfl rfl (by show 1 < 3; decide) ?_
        dsimp only [List.set]
        refine g_goto (t := 74) C dX3_readClause_44 (by decide) ?_
        refine g_vret C dX3_readClause_74 (by decide) (by decide) ?_
        first | exact k01 za3 za14 | exact k00 za3 zb14 | exact k11 zb3 za26 za38 | exact k10 zb3 za26 zb38 | exact k21 zb3 zb26 za50 za61 | exact k20 zb3 zb26 za50 zb61 | exact kn zb3 zb26 zb50
    · --k26.1
      refine g_if_eq (n := 32) (t := 47) C dX3_readClause_29 rfl (by decide) (fun zc29 => ?_) (fun zc29 => ?_)
      rotate_left
      · exact absurd zc29 (by decide)
      refine g_aload_n (n := 48) C dX3_readClause_47 rfl rfl ?_
      refine g_ldcS (n := 50) "bond" 22 C dX3_readClause_48 rfl (by decide) ?_
      refine g_callV (n := 53) (As := [.ref _]) C dX3_readClause_50 rfl mw_X6_takeWord w_643 (fun _ _ hH9 hS9 => g_recv (ci := 6) C (by refine LW_at ?_ 0 rfl; exact A0) rfl _ _ hH9 hS9) rfl rfl (room hR rfl) (cc_take ht hb hn htr hbr hp4 (i := 2) (by decide) (fun za50 => ?_) (fun zb50 => ?_))
      · --k50.0
        refine g_if_eq (n := 56) (t := 70) C dX3_readClause_53 rfl (by decide) (fun zc53 => ?_) (fun zc53 => ?_)
        · exact absurd zc53 (by decide)
        refine g_aload_n (n := 57) C dX3_readClause_56 rfl rfl ?_
        refine g_aload_n (n := 58) C dX3_readClause_57 rfl rfl ?_
        refine g_iconst (n := 59) (v := 0) C dX3_readClause_58 rfl (by decide) ?_
        refine g_ldc (n := 61) C dX3_readClause_59 rfl w_647 ?_
        refine g_callV (n := 64) (As := [.int _, .int _]) C dX3_readClause_61 rfl mw_X6_expectNumber w_644 (fun _ _ hH9 hS9 => g_recv (ci := 6) C (by refine LW_at ?_ 0 rfl; exact A0) rfl _ _ hH9 hS9) rfl rfl (room hR rfl) (cc_xnum ht hb hn htr hbr (rsc_le (rsc_le hp4)) (fun za61 => ?_) (fun zb61 => ?_))
        · --k61.0
          refine b_put (n := 67) (T := TX3) (ty0 := tyX3) 2 C dX3_readClause_64 rfl ha har rfl (by decide) inX3 w_133 rfl tyX3_ok nmX3 rfl rfl rfl rfl (by show 2 < 3; decide) ?_
          dsimp only [List.set]
          refine g_goto (t := 74) C dX3_readClause_67 (by decide) ?_
          refine g_vret C dX3_readClause_74 (by decide) (by decide) ?_
          first | exact k01 za3 za14 | exact k00 za3 zb14 | exact k11 zb3 za26 za38 | exact k10 zb3 za26 zb38 | exact k21 zb3 zb26 za50 za61 | exact k20 zb3 zb26 za50 zb61 | exact kn zb3 zb26 zb50
        · --k61.1
          refine b_put (n := 67) (T := TX3) (ty0 := tyX3) 2 C dX3_readClause_64 rfl ha har rfl (by decide) inX3 w_133 rfl tyX3_ok nmX3 rfl rfl rfl rfl (by show 2 < 3; decide) ?_
          dsimp only [List.set]
          refine g_goto (t := 74) C dX3_readClause_67 (by decide) ?_
          refine g_vret C dX3_readClause_74 (by decide) (by decide) ?_
          first | exact k01 za3 za14 | exact k00 za3 zb14 | exact k11 zb3 za26 za38 | exact k10 zb3 za26 zb38 | exact k21 zb3 zb26 za50 za61 | exact k20 zb3 zb26 za50 zb61 | exact kn zb3 zb26 zb50
      · --k50.1
        refine g_if_eq (n := 56) (t := 70) C dX3_readClause_53 rfl (by decide) (fun zc53 => ?_) (fun zc53 => ?_)
        rotate_left
        · exact absurd zc53 (by decide)
        refine g_aload_n (n := 71) C dX3_readClause_70 rfl rfl ?_
        refine g_callV (n := 74) (As := []) C dX3_readClause_71 rfl mw_X6_refuse w_648 (fun _ _ hH9 hS9 => g_recv (ci := 6) C (by refine LW_at ?_ 0 rfl; exact A0) rfl _ _ hH9 hS9) rfl rfl (room hR rfl) (cc_refuse ?_)
        refine g_vret C dX3_readClause_74 (by decide) (by decide) ?_
        first | exact k01 za3 za14 | exact k00 za3 zb14 | exact k11 zb3 za26 za38 | exact k10 zb3 za26 zb38 | exact k21 zb3 zb26 za50 za61 | exact k20 zb3 zb26 za50 zb61 | exact kn zb3 zb26 zb50
