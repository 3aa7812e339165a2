section BROWS
variable {K : Cx} {E : Ev} {cc : ByteArray} {nL : Nat} {own : String} {ret : Option FieldType} {nm : String} {Q : State → Prop} {cs ss pc : Nat} {lv : List (Nat × Value)} {st : List Value} {h : AH}
/-- a field of a thing under the layer -/
theorem b_get {n a ci index : Nat} {ref Cn : String} {T : u_T} {N : Nat} {fs : List Value} {v : Value} {L : List (Nat × va_E)} (f : Nat) (C : GX K E cc nL own ret nm) (hd : decode cc pc = .ok (.getfield index, 3)) (hn : pc + 3 = n) (he : h a = some (.inr (ci, fs))) (hb : a ∉ L.map Prod.fst) (hv : fs[f]? = some v) (hc : vwCl[ci]? = some (Cn, T, N)) (hk : f < N) (hin : ∀ w ∈ u_ws Cn T N, w ∈ GW) (hlink : Cond.fieldLink own index ref (T f).2.1 (T f).2.2.1 ∈ GW) (href : (T f).1 = ref) (k : G K E nL Q cs ss n lv (v :: st) (LW L h)) : G K E nL Q cs ss pc lv (.ref a :: st) (LW L h) :=
  g_get C f hd hn ((LW_nb hb).trans he) hv hc hk hin hlink href k
end BROWS
theorem LW_is2 {a d : Nat} {x y : va_E} {h : AH} (hx : h a = some x) (hy : h d = some y) : h = LW [(a, x), (d, y)] h := (LW_id _ (fun q hq => by
  rcases List.mem_cons.mp hq with e | hq
  · rw [e]; exact hx
  · rw [List.mem_singleton.mp hq]; exact hy)).symm
theorem lA_two {a d : Nat} {x y : va_E} (n : a ≠ d) : lA [(a, x), (d, y)] := List.pairwise_cons.mpr ⟨fun z hz => by rw [List.mem_singleton.mp hz]; exact n, List.pairwise_singleton _ _⟩
/-- what became of a pit's bond -/
def cbond (bo fi la t : Int32) : Int32 := if bo = 0 then 0 else if fi = -1 then (if la < t then 2 else 1) else (if la < fi then 2 else 0)
def pobj (sq su la bo fo fi : Int32) : va_E := .inr (5, [.int sq, .int su, .int la, .int bo, .int fo, .int fi])
theorem dX5_isFilled_0 : decode cX5_isFilled 0 = .ok (.aload_n 0, 1) := by decide +kernel
theorem dX5_isFilled_1 : decode cX5_isFilled 1 = .ok (.getfield 33, 3) := by decide +kernel
theorem dX5_isFilled_4 : decode cX5_isFilled 4 = .ok (.iconst (-1), 1) := by decide +kernel
theorem dX5_isFilled_5 : decode cX5_isFilled 5 = .ok (.if_icmp .eq 7, 3) := by decide +kernel
theorem dX5_isFilled_8 : decode cX5_isFilled 8 = .ok (.iconst 1, 1) := by decide +kernel
theorem dX5_isFilled_9 : decode cX5_isFilled 9 = .ok (.goto 4, 3) := by decide +kernel
theorem dX5_isFilled_12 : decode cX5_isFilled 12 = .ok (.iconst 0, 1) := by decide +kernel
theorem dX5_isFilled_13 : decode cX5_isFilled 13 = .ok (.ireturn, 1) := by decide +kernel
set_option maxHeartbeats 400000 in
set_option maxRecDepth 20000 in
theorem cc_isFilled {l : Launch} {E : Ev} {P : Value → AH → Prop}  {a : Nat} {sq su la bo fo fi : Int32} {h : AH} (he : h a = some (.inr (5, [.int sq, .int su, .int la, .int bo, .int fo, .int fi]))) (k1 : ¬ fi = -1 → P (.int 1) h) (k0 : fi = -1 → P (.int 0) h) : Mt l E yX5_isFilled cX5_isFilled 1 (some .boolean) 0 0 0 0 [.ref a] (h) P := by
  refine Mt.of (by decide) (Nat.le_of_ble_eq_true rfl) ?_
  intro K hK hR C
  refine g_aload_n (n := 1) C dX5_isFilled_0 rfl rfl ?_
  refine g_get (n := 4) (T := TX5) C 5 dX5_isFilled_1 rfl he rfl rfl (by decide) inX5 w_761 rfl ?_
  refine g_iconst (n := 5) (v := (-1)) C dX5_isFilled_4 rfl (by decide) ?_
  refine g_icmp_eq (n := 8) (t := 12) C dX5_isFilled_5 rfl (by decide) (fun zc5 => ?_) (fun zc5 => ?_)
  · --t5
    refine g_iconst (n := 13) (v := 0) C dX5_isFilled_12 rfl (by decide) ?_
    refine g_zret C dX5_isFilled_13 (by decide) (by decide) (by rfl) ?_
    exact k0 zc5
  · --f5
    refine g_iconst (n := 9) (v := 1) C dX5_isFilled_8 rfl (by decide) ?_
    refine g_goto (t := 13) C dX5_isFilled_9 (by decide) ?_
    refine g_zret C dX5_isFilled_13 (by decide) (by decide) (by rfl) ?_
    exact k1 zc5
theorem dX5_fillOn_0 : decode cX5_fillOn 0 = .ok (.aload_n 0, 1) := by decide +kernel
theorem dX5_fillOn_1 : decode cX5_fillOn 1 = .ok (.invokevirtual 36, 3) := by decide +kernel
theorem dX5_fillOn_4 : decode cX5_fillOn 4 = .ok (.ifCond .eq 5, 3) := by decide +kernel
theorem dX5_fillOn_7 : decode cX5_fillOn 7 = .ok (.iconst 0, 1) := by decide +kernel
theorem dX5_fillOn_8 : decode cX5_fillOn 8 = .ok (.ireturn, 1) := by decide +kernel
theorem dX5_fillOn_9 : decode cX5_fillOn 9 = .ok (.aload_n 0, 1) := by decide +kernel
theorem dX5_fillOn_10 : decode cX5_fillOn 10 = .ok (.iload_n 1, 1) := by decide +kernel
theorem dX5_fillOn_11 : decode cX5_fillOn 11 = .ok (.putfield 33, 3) := by decide +kernel
theorem dX5_fillOn_14 : decode cX5_fillOn 14 = .ok (.iconst 1, 1) := by decide +kernel
theorem dX5_fillOn_15 : decode cX5_fillOn 15 = .ok (.ireturn, 1) := by decide +kernel
set_option maxHeartbeats 400000 in
set_option maxRecDepth 20000 in
theorem cc_fillOn {l : Launch} {E : Ev} {P : Value → AH → Prop}  {a : Nat} {sq su la bo fo fi : Int32} {h : AH} (he : h a = some (.inr (5, [.int sq, .int su, .int la, .int bo, .int fo, .int fi]))) {t : Int32} (k0 : ¬ fi = -1 → P (.int 0) h) (k1 : fi = -1 → P (.int 1) (hset h a (.inr (5, [.int sq, .int su, .int la, .int bo, .int fo, .int t])))) : Mt l E yX5_fillOn cX5_fillOn 2 (some .boolean) 1 20 0 0 [.ref a, .int t] (h) P := by
  refine Mt.of (by decide) (Nat.le_of_ble_eq_true rfl) ?_
  intro K hK hR C
  refine g_aload_n (n := 1) C dX5_fillOn_0 rfl rfl ?_
  refine g_callV (n := 4) (As := []) C dX5_fillOn_1 rfl mw_X5_isFilled w_405 (g_recv C he rfl) rfl rfl (room hR rfl) (cc_isFilled he (fun za1 => ?_) (fun zb1 => ?_))
  · --k1.0
    refine g_if_eq (n := 7) (t := 9) C dX5_fillOn_4 rfl (by decide) (fun zc4 => ?_) (fun zc4 => ?_)
    · exact absurd zc4 (by decide)
    refine g_iconst (n := 8) (v := 0) C dX5_fillOn_7 rfl (by decide) ?_
    refine g_zret C dX5_fillOn_8 (by decide) (by decide) (by rfl) ?_
    exact k0 za1
  · --k1.1
    refine g_if_eq (n := 7) (t := 9) C dX5_fillOn_4 rfl (by decide) (fun zc4 => ?_) (fun zc4 => ?_)
    rotate_left
    · exact absurd zc4 (by decide)
    rw [LW_is he]
    have A0 : lA [(a, (.inr (5, [.int sq, .int su, .int la, .int bo, .int fo, .int fi]) : va_E))] := lA_one _ _
    refine g_aload_n (n := 10) C dX5_fillOn_9 rfl rfl ?_
    refine g_iload_n (n := 11) C dX5_fillOn_10 rfl rfl ?_
    refine l_put (n := 14) (T := TX5) (ty0 := tyX5) C 0 5 dX5_fillOn_11 rfl A0 rfl rfl (by decide) inX5 w_761 rfl tyX5_ok nmX5 rfl rfl rfl rfl (by show 5 < 6; decide) ?_
    dsimp only [List.set]
    refine g_iconst (n := 15) (v := 1) C dX5_fillOn_14 rfl (by decide) ?_
    refine g_zret C dX5_fillOn_15 (by decide) (by decide) (by rfl) ?_
    rw [LW_one]
    exact k1 zb1
theorem dX5_bondState_0 : decode cX5_bondState 0 = .ok (.aload_n 0, 1) := by decide +kernel
theorem dX5_bondState_1 : decode cX5_bondState 1 = .ok (.getfield 29, 3) := by decide +kernel
theorem dX5_bondState_4 : decode cX5_bondState 4 = .ok (.ifCond .ne 5, 3) := by decide +kernel
theorem dX5_bondState_7 : decode cX5_bondState 7 = .ok (.iconst 0, 1) := by decide +kernel
theorem dX5_bondState_8 : decode cX5_bondState 8 = .ok (.ireturn, 1) := by decide +kernel
theorem dX5_bondState_9 : decode cX5_bondState 9 = .ok (.aload_n 0, 1) := by decide +kernel
theorem dX5_bondState_10 : decode cX5_bondState 10 = .ok (.invokevirtual 36, 3) := by decide +kernel
theorem dX5_bondState_13 : decode cX5_bondState 13 = .ok (.ifCond .eq 10, 3) := by decide +kernel
theorem dX5_bondState_16 : decode cX5_bondState 16 = .ok (.aload_n 0, 1) := by decide +kernel
theorem dX5_bondState_17 : decode cX5_bondState 17 = .ok (.getfield 33, 3) := by decide +kernel
theorem dX5_bondState_20 : decode cX5_bondState 20 = .ok (.goto 4, 3) := by decide +kernel
theorem dX5_bondState_23 : decode cX5_bondState 23 = .ok (.iload_n 1, 1) := by decide +kernel
theorem dX5_bondState_24 : decode cX5_bondState 24 = .ok (.istore_n 2, 1) := by decide +kernel
theorem dX5_bondState_25 : decode cX5_bondState 25 = .ok (.iload_n 2, 1) := by decide +kernel
theorem dX5_bondState_26 : decode cX5_bondState 26 = .ok (.aload_n 0, 1) := by decide +kernel
theorem dX5_bondState_27 : decode cX5_bondState 27 = .ok (.getfield 23, 3) := by decide +kernel
theorem dX5_bondState_30 : decode cX5_bondState 30 = .ok (.if_icmp .le 5, 3) := by decide +kernel
theorem dX5_bondState_33 : decode cX5_bondState 33 = .ok (.iconst 2, 1) := by decide +kernel
theorem dX5_bondState_34 : decode cX5_bondState 34 = .ok (.ireturn, 1) := by decide +kernel
theorem dX5_bondState_35 : decode cX5_bondState 35 = .ok (.aload_n 0, 1) := by decide +kernel
theorem dX5_bondState_36 : decode cX5_bondState 36 = .ok (.invokevirtual 36, 3) := by decide +kernel
theorem dX5_bondState_39 : decode cX5_bondState 39 = .ok (.ifCond .eq 7, 3) := by decide +kernel
theorem dX5_bondState_42 : decode cX5_bondState 42 = .ok (.iconst 0, 1) := by decide +kernel
theorem dX5_bondState_43 : decode cX5_bondState 43 = .ok (.goto 4, 3) := by decide +kernel
theorem dX5_bondState_46 : decode cX5_bondState 46 = .ok (.iconst 1, 1) := by decide +kernel
theorem dX5_bondState_47 : decode cX5_bondState 47 = .ok (.ireturn, 1) := by decide +kernel
set_option maxHeartbeats 400000 in
set_option maxRecDepth 20000 in
theorem cc_bond {l : Launch} {E : Ev} {P : Value → AH → Prop}  {a : Nat} {sq su la bo fo fi : Int32} {h : AH} (he : h a = some (.inr (5, [.int sq, .int su, .int la, .int bo, .int fo, .int fi]))) {t : Int32} (hp : P (.int (cbond bo fi la t)) h) : Mt l E yX5_bondState cX5_bondState 3 (some .int) 1 20 0 0 [.ref a, .int t] (h) P := by
  refine Mt.of (by decide) (Nat.le_of_ble_eq_true rfl) ?_
  intro K hK hR C
  refine g_aload_n (n := 1) C dX5_bondState_0 rfl rfl ?_
  refine g_get (n := 4) (T := TX5) C 3 dX5_bondState_1 rfl he rfl rfl (by decide) inX5 w_756 rfl ?_
  refine g_if_ne (n := 7) (t := 9) C dX5_bondState_4 rfl (by decide) (fun zc4 => ?_) (fun zc4 => ?_)
  · --t4
    refine g_aload_n (n := 10) C dX5_bondState_9 rfl rfl ?_
    refine g_callV (n := 13) (As := []) C dX5_bondState_10 rfl mw_X5_isFilled w_405 (g_recv C he rfl) rfl rfl (room hR rfl) (cc_isFilled he (fun za10 => ?_) (fun zb10 => ?_))
    · --k10.0
      refine g_if_eq (n := 16) (t := 23) C dX5_bondState_13 rfl (by decide) (fun zc13 => ?_) (fun zc13 => ?_)
      · exact absurd zc13 (by decide)
      refine g_aload_n (n := 17) C dX5_bondState_16 rfl rfl ?_
      refine g_get (n := 20) (T := TX5) C 5 dX5_bondState_17 rfl he rfl rfl (by decide) inX5 w_761 rfl ?_
      refine g_goto (t := 24) C dX5_bondState_20 (by decide) ?_
      refine g_istore_n (n := 25) C dX5_bondState_24 rfl (by decide) ?_
      refine g_iload_n (n := 26) C dX5_bondState_25 rfl rfl ?_
      refine g_aload_n (n := 27) C dX5_bondState_26 rfl rfl ?_
      refine g_get (n := 30) (T := TX5) C 2 dX5_bondState_27 rfl he rfl rfl (by decide) inX5 w_754 rfl ?_
      refine g_icmp_le (n := 33) (t := 35) C dX5_bondState_30 rfl (by decide) (fun zc30 => ?_) (fun zc30 => ?_)
      · --t30
        refine g_aload_n (n := 36) C dX5_bondState_35 rfl rfl ?_
        refine g_callV (n := 39) (As := []) C dX5_bondState_36 rfl mw_X5_isFilled w_405 (g_recv C he rfl) rfl rfl (room hR rfl) (cc_isFilled he (fun za36 => ?_) (fun zb36 => ?_))
        · --k36.0
          refine g_if_eq (n := 42) (t := 46) C dX5_bondState_39 rfl (by decide) (fun zc39 => ?_) (fun zc39 => ?_)
          · exact absurd zc39 (by decide)
          refine g_iconst (n := 43) (v := 0) C dX5_bondState_42 rfl (by decide) ?_
          refine g_goto (t := 47) C dX5_bondState_43 (by decide) ?_
          refine g_iret C dX5_bondState_47 (by decide) (by decide) ?_
          first | (rw [show cbond bo fi la t = 0 from by unfold cbond; simp_all [Int32.not_le, Int32.not_lt]] at hp; exact hp) | (exfalso; simp_all)
        · --k36.1
          refine g_if_eq (n := 42) (t := 46) C dX5_bondState_39 rfl (by decide) (fun zc39 => ?_) (fun zc39 => ?_)
          rotate_left
          · exact absurd zc39 (by decide)
          refine g_iconst (n := 47) (v := 1) C dX5_bondState_46 rfl (by decide) ?_
          refine g_iret C dX5_bondState_47 (by decide) (by decide) ?_
          first | (rw [show cbond bo fi la t = 1 from by unfold cbond; simp_all [Int32.not_le, Int32.not_lt]] at hp; exact hp) | (exfalso; simp_all)
      · --f30
        refine g_iconst (n := 34) (v := 2) C dX5_bondState_33 rfl (by decide) ?_
        refine g_iret C dX5_bondState_34 (by decide) (by decide) ?_
        first | (rw [show cbond bo fi la t = 2 from by unfold cbond; simp_all [Int32.not_le, Int32.not_lt]] at hp; exact hp) | (exfalso; simp_all)
    · --k10.1
      refine g_if_eq (n := 16) (t := 23) C dX5_bondState_13 rfl (by decide) (fun zc13 => ?_) (fun zc13 => ?_)
      rotate_left
      · exact absurd zc13 (by decide)
      refine g_iload_n (n := 24) C dX5_bondState_23 rfl rfl ?_
      refine g_istore_n (n := 25) C dX5_bondState_24 rfl (by decide) ?_
      refine g_iload_n (n := 26) C dX5_bondState_25 rfl rfl ?_
      refine g_aload_n (n := 27) C dX5_bondState_26 rfl rfl ?_
      refine g_get (n := 30) (T := TX5) C 2 dX5_bondState_27 rfl he rfl rfl (by decide) inX5 w_754 rfl ?_
      refine g_icmp_le (n := 33) (t := 35) C dX5_bondState_30 rfl (by decide) (fun zc30 => ?_) (fun zc30 => ?_)
      · --t30
        refine g_aload_n (n := 36) C dX5_bondState_35 rfl rfl ?_
        refine g_callV (n := 39) (As := []) C dX5_bondState_36 rfl mw_X5_isFilled w_405 (g_recv C he rfl) rfl rfl (room hR rfl) (cc_isFilled he (fun za36 => ?_) (fun zb36 => ?_))
        · --k36.0
          refine g_if_eq (n := 42) (t := 46) C dX5_bondState_39 rfl (by decide) (fun zc39 => ?_) (fun zc39 => ?_)
          · exact absurd zc39 (by decide)
          refine g_iconst (n := 43) (v := 0) C dX5_bondState_42 rfl (by decide) ?_
          refine g_goto (t := 47) C dX5_bondState_43 (by decide) ?_
          refine g_iret C dX5_bondState_47 (by decide) (by decide) ?_
          first | (rw [show cbond bo fi la t = 0 from by unfold cbond; simp_all [Int32.not_le, Int32.not_lt]] at hp; exact hp) | (exfalso; simp_all)
        · --k36.1
          refine g_if_eq (n := 42) (t := 46) C dX5_bondState_39 rfl (by decide) (fun zc39 => ?_) (fun zc39 => ?_)
          rotate_left
          · exact absurd zc39 (by decide)
          refine g_iconst (n := 47) (v := 1) C dX5_bondState_46 rfl (by decide) ?_
          refine g_iret C dX5_bondState_47 (by decide) (by decide) ?_
          first | (rw [show cbond bo fi la t = 1 from by unfold cbond; simp_all [Int32.not_le, Int32.not_lt]] at hp; exact hp) | (exfalso; simp_all)
      · --f30
        refine g_iconst (n := 34) (v := 2) C dX5_bondState_33 rfl (by decide) ?_
        refine g_iret C dX5_bondState_34 (by decide) (by decide) ?_
        first | (rw [show cbond bo fi la t = 2 from by unfold cbond; simp_all [Int32.not_le, Int32.not_lt]] at hp; exact hp) | (exfalso; simp_all)
  · --f4
    refine g_iconst (n := 8) (v := 0) C dX5_bondState_7 rfl (by decide) ?_
    refine g_iret C dX5_bondState_8 (by decide) (by decide) ?_
    first | (rw [show cbond bo fi la t = 0 from by unfold cbond; simp_all [Int32.not_le, Int32.not_lt]] at hp; exact hp) | (exfalso; simp_all)
theorem dX3_agrees_0 : decode cX3_agrees 0 = .ok (.iconst 1, 1) := by decide +kernel
theorem dX3_agrees_1 : decode cX3_agrees 1 = .ok (.ireturn, 1) := by decide +kernel
set_option maxHeartbeats 400000 in
set_option maxRecDepth 20000 in
theorem cc_lawAgrees {l : Launch} {E : Ev} {P : Value → AH → Prop}  {a : Nat} {h : AH} (hp : P (.int 1) h) : Mt l E yX3_agrees cX3_agrees 1 (some .boolean) 0 0 0 0 [.ref a] (h) P := by
  refine Mt.of (by decide) (Nat.le_of_ble_eq_true rfl) ?_
  intro K hK hR C
  refine g_iconst (n := 1) (v := 1) C dX3_agrees_0 rfl (by decide) ?_
  refine g_zret C dX3_agrees_1 (by decide) (by decide) (by rfl) ?_
  exact hp
theorem dX5_init_0 : decode cX5_init 0 = .ok (.aload_n 0, 1) := by decide +kernel
theorem dX5_init_1 : decode cX5_init 1 = .ok (.invokespecial 3, 3) := by decide +kernel
theorem dX5_init_4 : decode cX5_init 4 = .ok (.aload_n 0, 1) := by decide +kernel
theorem dX5_init_5 : decode cX5_init 5 = .ok (.iload_n 1, 1) := by decide +kernel
theorem dX5_init_6 : decode cX5_init 6 = .ok (.putfield 9, 3) := by decide +kernel
theorem dX5_init_9 : decode cX5_init 9 = .ok (.aload_n 0, 1) := by decide +kernel
theorem dX5_init_10 : decode cX5_init 10 = .ok (.iload_n 2, 1) := by decide +kernel
theorem dX5_init_11 : decode cX5_init 11 = .ok (.putfield 15, 3) := by decide +kernel
theorem dX5_init_14 : decode cX5_init 14 = .ok (.aload_n 0, 1) := by decide +kernel
theorem dX5_init_15 : decode cX5_init 15 = .ok (.iload_n 2, 1) := by decide +kernel
theorem dX5_init_16 : decode cX5_init 16 = .ok (.aload_n 3, 1) := by decide +kernel
theorem dX5_init_17 : decode cX5_init 17 = .ok (.getfield 18, 3) := by decide +kernel
theorem dX5_init_20 : decode cX5_init 20 = .ok (.iadd, 1) := by decide +kernel
theorem dX5_init_21 : decode cX5_init 21 = .ok (.putfield 23, 3) := by decide +kernel
theorem dX5_init_24 : decode cX5_init 24 = .ok (.aload_n 0, 1) := by decide +kernel
theorem dX5_init_25 : decode cX5_init 25 = .ok (.aload_n 3, 1) := by decide +kernel
theorem dX5_init_26 : decode cX5_init 26 = .ok (.getfield 26, 3) := by decide +kernel
theorem dX5_init_29 : decode cX5_init 29 = .ok (.putfield 29, 3) := by decide +kernel
theorem dX5_init_32 : decode cX5_init 32 = .ok (.aload_n 0, 1) := by decide +kernel
theorem dX5_init_33 : decode cX5_init 33 = .ok (.iconst (-1), 1) := by decide +kernel
theorem dX5_init_34 : decode cX5_init 34 = .ok (.putfield 30, 3) := by decide +kernel
theorem dX5_init_37 : decode cX5_init 37 = .ok (.aload_n 0, 1) := by decide +kernel
theorem dX5_init_38 : decode cX5_init 38 = .ok (.iconst (-1), 1) := by decide +kernel
theorem dX5_init_39 : decode cX5_init 39 = .ok (.putfield 33, 3) := by decide +kernel
theorem dX5_init_42 : decode cX5_init 42 = .ok (.return_, 1) := by decide +kernel
set_option maxHeartbeats 400000 in
set_option maxRecDepth 20000 in
theorem cc_pitInit {l : Launch} {E : Ev} {P : Value → AH → Prop}  {a w : Nat} {sq t ap fd bo : Int32} {h : AH} (hl : h w = some (.inr (3, [.int ap, .int fd, .int bo]))) (hla : w ∉ [a]) (hp : P .null (LW [(a, .inr (5, [.int sq, .int t, .int (t + fd), .int bo, .int (-1), .int (-1)]))] h)) : Mt l E yX5_init cX5_init 4 none 1 20 0 0 [.ref a, .int sq, .int t, .ref w] (LW [(a, .inr (5, [.int 0, .int 0, .int 0, .int 0, .int 0, .int 0]))] h) P := by
  refine Mt.of (by decide) (Nat.le_of_ble_eq_true rfl) ?_
  intro K hK hR C
  have A0 : lA [(a, (.inr (5, [.int 0, .int 0, .int 0, .int 0, .int 0, .int 0]) : va_E))] := lA_one _ _
  refine g_aload_n (n := 1) C dX5_init_0 rfl rfl ?_
  refine g_objInit (n := 4) C dX5_init_1 rfl w_748 w_72 w_73 (roomF hR rfl) (roomL hR rfl) ?_
  refine g_aload_n (n := 5) C dX5_init_4 rfl rfl ?_
  refine g_iload_n (n := 6) C dX5_init_5 rfl rfl ?_
  refine l_putF (n := 9) (T := TX5) (ty0 := tyX5) C 0 0 dX5_init_6 rfl A0 rfl rfl (by decide) inX5 w_749 rfl tyX5_ok nmX5 rfl rfl rfl rfl rfl rfl (by show 0 < 6; decide) ?_
  dsimp only [List.set]
  refine g_aload_n (n := 10) C dX5_init_9 rfl rfl ?_
  refine g_iload_n (n := 11) C dX5_init_10 rfl rfl ?_
  refine l_putF (n := 14) (T := TX5) (ty0 := tyX5) C 0 1 dX5_init_11 rfl A0 rfl rfl (by decide) inX5 w_752 rfl tyX5_ok nmX5 rfl rfl rfl rfl rfl rfl (by show 1 < 6; decide) ?_
  dsimp only [List.set]
  refine g_aload_n (n := 15) C dX5_init_14 rfl rfl ?_
  refine g_iload_n (n := 16) C dX5_init_15 rfl rfl ?_
  refine g_aload_n (n := 17) C dX5_init_16 rfl rfl ?_
  refine b_get (n := 20) (T := TX3) 1 C dX5_init_17 rfl hl hla rfl rfl (by decide) inX3 w_132 rfl ?_
  refine g_iadd (n := 21) C dX5_init_20 rfl ?_
  refine l_putF (n := 24) (T := TX5) (ty0 := tyX5) C 0 2 dX5_init_21 rfl A0 rfl rfl (by decide) inX5 w_754 rfl tyX5_ok nmX5 rfl rfl rfl rfl rfl rfl (by show 2 < 6; decide) ?_
  dsimp only [List.set]
  refine g_aload_n (n := 25) C dX5_init_24 rfl rfl ?_
  refine g_aload_n (n := 26) C dX5_init_25 rfl rfl ?_
  refine b_get (n := 29) (T := TX3) 2 C dX5_init_26 rfl hl hla rfl rfl (by decide) inX3 w_134 rfl ?_
  refine l_putF (n := 32) (T := TX5) (ty0 := tyX5) C 0 3 dX5_init_29 rfl A0 rfl rfl (by decide) inX5 w_756 rfl tyX5_ok nmX5 rfl rfl rfl rfl rfl rfl (by show 3 < 6; decide) ?_
  dsimp only [List.set]
  refine g_aload_n (n := 33) C dX5_init_32 rfl rfl ?_
  refine g_iconst (n := 34) (v := (-1)) C dX5_init_33 rfl (by decide) ?_
  refine l_put (n := 37) (T := TX5) (ty0 := tyX5) C 0 4 dX5_init_34 rfl A0 rfl rfl (by decide) inX5 w_758 rfl tyX5_ok nmX5 rfl rfl rfl rfl (by show 4 < 6; decide) ?_
  dsimp only [List.set]
  refine g_aload_n (n := 38) C dX5_init_37 rfl rfl ?_
  refine g_iconst (n := 39) (v := (-1)) C dX5_init_38 rfl (by decide) ?_
  refine l_put (n := 42) (T := TX5) (ty0 := tyX5) C 0 5 dX5_init_39 rfl A0 rfl rfl (by decide) inX5 w_761 rfl tyX5_ok nmX5 rfl rfl rfl rfl (by show 5 < 6; decide) ?_
  dsimp only [List.set]
  refine g_vret C dX5_init_42 (by decide) (by decide) ?_
  exact hp
theorem dX9_length_0 : decode cX9_length 0 = .ok (.aload_n 0, 1) := by decide +kernel
theorem dX9_length_1 : decode cX9_length 1 = .ok (.getfield 15, 3) := by decide +kernel
theorem dX9_length_4 : decode cX9_length 4 = .ok (.ireturn, 1) := by decide +kernel
set_option maxHeartbeats 400000 in
set_option maxRecDepth 20000 in
theorem cc_tlen {l : Launch} {E : Ev} {P : Value → AH → Prop}  {t b : Nat} {len : Int32} {h : AH} (he : h t = some (.inr (9, [.ref b, .int len]))) (hp : P (.int len) h) : Mt l E yX9_length cX9_length 1 (some .int) 0 0 0 0 [.ref t] (h) P := by
  refine Mt.of (by decide) (Nat.le_of_ble_eq_true rfl) ?_
  intro K hK hR C
  refine g_aload_n (n := 1) C dX9_length_0 rfl rfl ?_
  refine g_get (n := 4) (T := TX9) C 1 dX9_length_1 rfl he rfl rfl (by decide) inX9 w_81 rfl ?_
  refine g_iret C dX9_length_4 (by decide) (by decide) ?_
  exact hp
theorem dX9_hasRoom_0 : decode cX9_hasRoom 0 = .ok (.aload_n 0, 1) := by decide +kernel
theorem dX9_hasRoom_1 : decode cX9_hasRoom 1 = .ok (.getfield 15, 3) := by decide +kernel
theorem dX9_hasRoom_4 : decode cX9_hasRoom 4 = .ok (.bipush 20, 2) := by decide +kernel
theorem dX9_hasRoom_6 : decode cX9_hasRoom 6 = .ok (.iadd, 1) := by decide +kernel
theorem dX9_hasRoom_7 : decode cX9_hasRoom 7 = .ok (.sipush 400, 3) := by decide +kernel
theorem dX9_hasRoom_10 : decode cX9_hasRoom 10 = .ok (.if_icmp .gt 7, 3) := by decide +kernel
theorem dX9_hasRoom_13 : decode cX9_hasRoom 13 = .ok (.iconst 1, 1) := by decide +kernel
theorem dX9_hasRoom_14 : decode cX9_hasRoom 14 = .ok (.goto 4, 3) := by decide +kernel
theorem dX9_hasRoom_17 : decode cX9_hasRoom 17 = .ok (.iconst 0, 1) := by decide +kernel
theorem dX9_hasRoom_18 : decode cX9_hasRoom 18 = .ok (.ireturn, 1) := by decide +kernel
set_option maxHeartbeats 400000 in
set_option maxRecDepth 20000 in
theorem cc_troom {l : Launch} {E : Ev} {P : Value → AH → Prop}  {t b : Nat} {len : Int32} {h : AH} (he : h t = some (.inr (9, [.ref b, .int len]))) (k1 : len + 20 ≤ 400 → P (.int 1) h) (k0 : ¬ len + 20 ≤ 400 → P (.int 0) h) : Mt l E yX9_hasRoom cX9_hasRoom 1 (some .boolean) 0 0 0 0 [.ref t] (h) P := by
  refine Mt.of (by decide) (Nat.le_of_ble_eq_true rfl) ?_
  intro K hK hR C
  refine g_aload_n (n := 1) C dX9_hasRoom_0 rfl rfl ?_
  refine g_get (n := 4) (T := TX9) C 1 dX9_hasRoom_1 rfl he rfl rfl (by decide) inX9 w_81 rfl ?_
  refine g_bipush (n := 6) (v := 20) C dX9_hasRoom_4 rfl (by decide) ?_
  refine g_iadd (n := 7) C dX9_hasRoom_6 rfl ?_
  refine g_sipush (n := 10) (v := 400) C dX9_hasRoom_7 rfl (by decide) ?_
  refine g_icmp_gt (n := 13) (t := 17) C dX9_hasRoom_10 rfl (by decide) (fun zc10 => ?_) (fun zc10 => ?_)
  · --t10
    refine g_iconst (n := 18) (v := 0) C dX9_hasRoom_17 rfl (by decide) ?_
    refine g_zret C dX9_hasRoom_18 (by decide) (by decide) (by rfl) ?_
    exact k0 (Int32.not_le.mpr zc10)
  · --f10
    refine g_iconst (n := 14) (v := 1) C dX9_hasRoom_13 rfl (by decide) ?_
    refine g_goto (t := 18) C dX9_hasRoom_14 (by decide) ?_
    refine g_zret C dX9_hasRoom_18 (by decide) (by decide) (by rfl) ?_
    exact k1 (Int32.not_lt.mp zc10)
theorem dX9_shorten_0 : decode cX9_shorten 0 = .ok (.iload_n 1, 1) := by decide +kernel
theorem dX9_shorten_1 : decode cX9_shorten 1 = .ok (.ifCond .lt 11, 3) := by decide +kernel
theorem dX9_shorten_4 : decode cX9_shorten 4 = .ok (.iload_n 1, 1) := by decide +kernel
theorem dX9_shorten_5 : decode cX9_shorten 5 = .ok (.aload_n 0, 1) := by decide +kernel
theorem dX9_shorten_6 : decode cX9_shorten 6 = .ok (.getfield 15, 3) := by decide +kernel
theorem dX9_shorten_9 : decode cX9_shorten 9 = .ok (.if_icmp .le 5, 3) := by decide +kernel
theorem dX9_shorten_12 : decode cX9_shorten 12 = .ok (.iconst 0, 1) := by decide +kernel
theorem dX9_shorten_13 : decode cX9_shorten 13 = .ok (.ireturn, 1) := by decide +kernel
theorem dX9_shorten_14 : decode cX9_shorten 14 = .ok (.aload_n 0, 1) := by decide +kernel
theorem dX9_shorten_15 : decode cX9_shorten 15 = .ok (.iload_n 1, 1) := by decide +kernel
theorem dX9_shorten_16 : decode cX9_shorten 16 = .ok (.putfield 15, 3) := by decide +kernel
theorem dX9_shorten_19 : decode cX9_shorten 19 = .ok (.iconst 1, 1) := by decide +kernel
theorem dX9_shorten_20 : decode cX9_shorten 20 = .ok (.ireturn, 1) := by decide +kernel
set_option maxHeartbeats 400000 in
set_option maxRecDepth 20000 in
theorem cc_tshort {l : Launch} {E : Ev} {P : Value → AH → Prop}  {t b : Nat} {len n : Int32} {h : AH} (he : h t = some (.inr (9, [.ref b, .int len]))) (k0 : n < 0 ∨ len < n → P (.int 0) h) (k1 : ¬ n < 0 → ¬ len < n → P (.int 1) (hset h t (.inr (9, [.ref b, .int n])))) : Mt l E yX9_shorten cX9_shorten 2 (some .boolean) 0 0 0 0 [.ref t, .int n] (h) P := by
  refine Mt.of (by decide) (Nat.le_of_ble_eq_true rfl) ?_
  intro K hK hR C
  refine g_iload_n (n := 1) C dX9_shorten_0 rfl rfl ?_
  refine g_if_lt (n := 4) (t := 12) C dX9_shorten_1 rfl (by decide) (fun zc1 => ?_) (fun zc1 => ?_)
  · --t1
    refine g_iconst (n := 13) (v := 0) C dX9_shorten_12 rfl (by decide) ?_
    refine g_zret C dX9_shorten_13 (by decide) (by decide) (by rfl) ?_
    first | exact k0 (Or.inl zc1) | exact k0 (Or.inr (Int32.not_le.mp zc9))
  · --f1
    refine g_iload_n (n := 5) C dX9_shorten_4 rfl rfl ?_
    refine g_aload_n (n := 6) C dX9_shorten_5 rfl rfl ?_
    refine g_get (n := 9) (T := TX9) C 1 dX9_shorten_6 rfl he rfl rfl (by decide) inX9 w_81 rfl ?_
    refine g_icmp_le (n := 12) (t := 14) C dX9_shorten_9 rfl (by decide) (fun zc9 => ?_) (fun zc9 => ?_)
    · --t9
      rw [LW_is he]
      have A0 : lA [(t, (.inr (9, [.ref b, .int len]) : va_E))] := lA_one _ _
      refine g_aload_n (n := 15) C dX9_shorten_14 rfl rfl ?_
      refine g_iload_n (n := 16) C dX9_shorten_15 rfl rfl ?_
      refine l_put (n := 19) (T := TX9) (ty0 := tyX9) C 0 1 dX9_shorten_16 rfl A0 rfl rfl (by decide) inX9 w_81 rfl tyX9_ok nmX9 rfl rfl rfl rfl (by show 1 < 2; decide) ?_
      dsimp only [List.set]
      refine g_iconst (n := 20) (v := 1) C dX9_shorten_19 rfl (by decide) ?_
      refine g_zret C dX9_shorten_20 (by decide) (by decide) (by rfl) ?_
      rw [LW_one]
      exact k1 zc1 (Int32.not_lt.mpr zc9)
    · --f9
      refine g_iconst (n := 13) (v := 0) C dX9_shorten_12 rfl (by decide) ?_
      refine g_zret C dX9_shorten_13 (by decide) (by decide) (by rfl) ?_
      first | exact k0 (Or.inl zc1) | exact k0 (Or.inr (Int32.not_le.mp zc9))
theorem i_lt9 {x : Int32} {n p : Nat} (hx : x = nI n) (c : ¬ x ≤ nI p) (hn : n ≤ 400) (hp : p ≤ 400) : p < n := by
  rcases Nat.lt_or_ge p n with q | q
  · exact q
  · exact absurd (by rw [hx]; exact nI_le q (by omega)) c
theorem i_ge9 {x : Int32} {n p : Nat} (hx : x = nI n) (c : x ≤ nI p) (hn : n ≤ 400) (hp : p ≤ 400) : n ≤ p := by
  rw [hx] at c
  exact (nI_leI (a := n) (b := p) (by omega) (by omega)).mp c
theorem dX9_byteAt_0 : decode cX9_byteAt 0 = .ok (.iload_n 1, 1) := by decide +kernel
theorem dX9_byteAt_1 : decode cX9_byteAt 1 = .ok (.ifCond .lt 24, 3) := by decide +kernel
theorem dX9_byteAt_4 : decode cX9_byteAt 4 = .ok (.iload_n 1, 1) := by decide +kernel
theorem dX9_byteAt_5 : decode cX9_byteAt 5 = .ok (.aload_n 0, 1) := by decide +kernel
theorem dX9_byteAt_6 : decode cX9_byteAt 6 = .ok (.getfield 15, 3) := by decide +kernel
theorem dX9_byteAt_9 : decode cX9_byteAt 9 = .ok (.if_icmp .ge 16, 3) := by decide +kernel
theorem dX9_byteAt_12 : decode cX9_byteAt 12 = .ok (.aload_n 0, 1) := by decide +kernel
theorem dX9_byteAt_13 : decode cX9_byteAt 13 = .ok (.getfield 11, 3) := by decide +kernel
theorem dX9_byteAt_16 : decode cX9_byteAt 16 = .ok (.iload_n 1, 1) := by decide +kernel
theorem dX9_byteAt_17 : decode cX9_byteAt 17 = .ok (.baload, 1) := by decide +kernel
theorem dX9_byteAt_18 : decode cX9_byteAt 18 = .ok (.sipush 255, 3) := by decide +kernel
theorem dX9_byteAt_21 : decode cX9_byteAt 21 = .ok (.iand, 1) := by decide +kernel
theorem dX9_byteAt_22 : decode cX9_byteAt 22 = .ok (.goto 4, 3) := by decide +kernel
theorem dX9_byteAt_25 : decode cX9_byteAt 25 = .ok (.iconst (-1), 1) := by decide +kernel
theorem dX9_byteAt_26 : decode cX9_byteAt 26 = .ok (.ireturn, 1) := by decide +kernel
set_option maxHeartbeats 400000 in
set_option maxRecDepth 20000 in
theorem cc_tbyte {l : Launch} {E : Ev} {P : Value → AH → Prop}  {t b : Nat} {len : Int32} {B : Nat → Int32} {h : AH} (he : h t = some (.inr (9, [.ref b, .int len]))) (hb : h b = some (.inl (E.2.2 0, 400, .inl B))) {n p : Nat} (hlen : len = nI n) (hn : n ≤ 400) (hp4 : p ≤ 400) (k1 : p < n → P (.int (B p &&& 255)) h) (k0 : n ≤ p → P (.int (-1)) h) : Mt l E yX9_byteAt cX9_byteAt 2 (some .int) 0 0 0 0 [.ref t, .int (nI p)] (h) P := by
  refine Mt.of (by decide) (Nat.le_of_ble_eq_true rfl) ?_
  intro K hK hR C
  refine g_iload_n (n := 1) C dX9_byteAt_0 rfl rfl ?_
  refine g_if_lt (n := 4) (t := 25) C dX9_byteAt_1 rfl (by decide) (fun zc1 => ?_) (fun zc1 => ?_)
  · --t1
    refine g_iconst (n := 26) (v := (-1)) C dX9_byteAt_25 rfl (by decide) ?_
    refine g_iret C dX9_byteAt_26 (by decide) (by decide) ?_
    first | exact absurd zc1 (Int32.not_lt.mpr (nI_le (a := 0) (Nat.zero_le _) (by omega))) | exact k0 (i_ge9 hlen zc9 hn hp4)
  · --f1
    refine g_iload_n (n := 5) C dX9_byteAt_4 rfl rfl ?_
    refine g_aload_n (n := 6) C dX9_byteAt_5 rfl rfl ?_
    refine g_get (n := 9) (T := TX9) C 1 dX9_byteAt_6 rfl he rfl rfl (by decide) inX9 w_81 rfl ?_
    refine g_icmp_ge (n := 12) (t := 25) C dX9_byteAt_9 rfl (by decide) (fun zc9 => ?_) (fun zc9 => ?_)
    · --t9
      refine g_iconst (n := 26) (v := (-1)) C dX9_byteAt_25 rfl (by decide) ?_
      refine g_iret C dX9_byteAt_26 (by decide) (by decide) ?_
      first | exact absurd zc1 (Int32.not_lt.mpr (nI_le (a := 0) (Nat.zero_le _) (by omega))) | exact k0 (i_ge9 hlen zc9 hn hp4)
    · --f9
      refine g_aload_n (n := 13) C dX9_byteAt_12 rfl rfl ?_
      refine g_get (n := 16) (T := TX9) C 0 dX9_byteAt_13 rfl he rfl rfl (by decide) inX9 w_80 rfl ?_
      refine g_iload_n (n := 17) C dX9_byteAt_16 rfl rfl ?_
      refine f_bald (n := 18) (p) C dX9_byteAt_17 rfl hb rfl (by have := i_lt9 hlen zc9 hn hp4; omega) (by decide) (rfl) ?_
      refine g_sipush (n := 21) (v := 255) C dX9_byteAt_18 rfl (by decide) ?_
      refine g_iand (n := 22) C dX9_byteAt_21 rfl ?_
      refine g_goto (t := 26) C dX9_byteAt_22 (by decide) ?_
      refine g_iret C dX9_byteAt_26 (by decide) (by decide) ?_
      exact k1 (i_lt9 hlen zc9 hn hp4)
