def csum (H : Nat → Int32) : Int32 := 0 + H 0 + H 1 + H 2 + H 3 + H 4 + H 5
/-- .. a part of what is left, in hundredths -/
def csh (H : Nat → Int32) (left : Int32) (k : Nat) : Int32 := left * H k / 100
theorem dX0_shareOf_0 : decode cX0_shareOf 0 = .ok (.iload_n 1, 1) := by decide +kernel
theorem dX0_shareOf_1 : decode cX0_shareOf 1 = .ok (.aload_n 0, 1) := by decide +kernel
theorem dX0_shareOf_2 : decode cX0_shareOf 2 = .ok (.getfield 9, 3) := by decide +kernel
theorem dX0_shareOf_5 : decode cX0_shareOf 5 = .ok (.iload_n 2, 1) := by decide +kernel
theorem dX0_shareOf_6 : decode cX0_shareOf 6 = .ok (.iaload, 1) := by decide +kernel
theorem dX0_shareOf_7 : decode cX0_shareOf 7 = .ok (.imul, 1) := by decide +kernel
theorem dX0_shareOf_8 : decode cX0_shareOf 8 = .ok (.bipush 100, 2) := by decide +kernel
theorem dX0_shareOf_10 : decode cX0_shareOf 10 = .ok (.idiv, 1) := by decide +kernel
theorem dX0_shareOf_11 : decode cX0_shareOf 11 = .ok (.ireturn, 1) := by decide +kernel
set_option maxHeartbeats 400000 in
set_option maxRecDepth 20000 in
theorem cc_shareOf {l : Launch} {E : Ev} {P : Value → AH → Prop}  {a u : Nat} {cf un : Int32} {H : Nat → Int32} {h : AH} (ha : h a = some (.inr (1, [.ref u, .int cf, .int un]))) (hu : h u = some (.inl (E.2.2 1, 6, .inl H))) {left : Int32} {k : Nat} (hk : k < 6) (hp : P (.int (csh H left k)) h) : Mt l E yX0_shareOf cX0_shareOf 3 (some .int) 0 0 0 0 [.ref a, .int left, .int (nI k)] (h) P := by
  refine Mt.of (by decide) (Nat.le_of_ble_eq_true rfl) ?_
  intro K hK hR C
  refine g_iload_n (n := 1) C dX0_shareOf_0 rfl rfl ?_
  refine g_aload_n (n := 2) C dX0_shareOf_1 rfl rfl ?_
  refine g_get (n := 5) (T := TX0) C 0 dX0_shareOf_2 rfl ha rfl rfl (by decide) inX0 w_179 rfl ?_
  refine g_iload_n (n := 6) C dX0_shareOf_5 rfl rfl ?_
  refine f_iald (n := 7) (k) C dX0_shareOf_6 rfl hu rfl hk (by decide) (rfl) ?_
  refine g_imul (n := 8) C dX0_shareOf_7 rfl ?_
  refine g_bipush (n := 10) (v := 100) C dX0_shareOf_8 rfl (by decide) ?_
  refine g_idiv (n := 11) C dX0_shareOf_10 rfl (by decide) ?_
  refine g_iret C dX0_shareOf_11 (by decide) (by decide) ?_
  exact hp
theorem dX0_agrees_0 : decode cX0_agrees 0 = .ok (.iconst 0, 1) := by decide +kernel
theorem dX0_agrees_1 : decode cX0_agrees 1 = .ok (.istore_n 1, 1) := by decide +kernel
theorem dX0_agrees_2 : decode cX0_agrees 2 = .ok (.aload_n 0, 1) := by decide +kernel
theorem dX0_agrees_3 : decode cX0_agrees 3 = .ok (.getfield 9, 3) := by decide +kernel
theorem dX0_agrees_6 : decode cX0_agrees 6 = .ok (.astore_n 2, 1) := by decide +kernel
theorem dX0_agrees_7 : decode cX0_agrees 7 = .ok (.aload_n 2, 1) := by decide +kernel
theorem dX0_agrees_8 : decode cX0_agrees 8 = .ok (.arraylength, 1) := by decide +kernel
theorem dX0_agrees_9 : decode cX0_agrees 9 = .ok (.istore_n 3, 1) := by decide +kernel
theorem dX0_agrees_10 : decode cX0_agrees 10 = .ok (.iconst 0, 1) := by decide +kernel
theorem dX0_agrees_11 : decode cX0_agrees 11 = .ok (.istore 4, 2) := by decide +kernel
theorem dX0_agrees_13 : decode cX0_agrees 13 = .ok (.iload 4, 2) := by decide +kernel
theorem dX0_agrees_15 : decode cX0_agrees 15 = .ok (.iload_n 3, 1) := by decide +kernel
theorem dX0_agrees_16 : decode cX0_agrees 16 = .ok (.if_icmp .ge 20, 3) := by decide +kernel
theorem dX0_agrees_19 : decode cX0_agrees 19 = .ok (.aload_n 2, 1) := by decide +kernel
theorem dX0_agrees_20 : decode cX0_agrees 20 = .ok (.iload 4, 2) := by decide +kernel
theorem dX0_agrees_22 : decode cX0_agrees 22 = .ok (.iaload, 1) := by decide +kernel
theorem dX0_agrees_23 : decode cX0_agrees 23 = .ok (.istore 5, 2) := by decide +kernel
theorem dX0_agrees_25 : decode cX0_agrees 25 = .ok (.iload_n 1, 1) := by decide +kernel
theorem dX0_agrees_26 : decode cX0_agrees 26 = .ok (.iload 5, 2) := by decide +kernel
theorem dX0_agrees_28 : decode cX0_agrees 28 = .ok (.iadd, 1) := by decide +kernel
theorem dX0_agrees_29 : decode cX0_agrees 29 = .ok (.istore_n 1, 1) := by decide +kernel
theorem dX0_agrees_30 : decode cX0_agrees 30 = .ok (.iinc 4 1, 3) := by decide +kernel
theorem dX0_agrees_33 : decode cX0_agrees 33 = .ok (.goto (-20), 3) := by decide +kernel
theorem dX0_agrees_36 : decode cX0_agrees 36 = .ok (.iload_n 1, 1) := by decide +kernel
theorem dX0_agrees_37 : decode cX0_agrees 37 = .ok (.bipush 100, 2) := by decide +kernel
theorem dX0_agrees_39 : decode cX0_agrees 39 = .ok (.if_icmp .gt 7, 3) := by decide +kernel
theorem dX0_agrees_42 : decode cX0_agrees 42 = .ok (.iconst 1, 1) := by decide +kernel
theorem dX0_agrees_43 : decode cX0_agrees 43 = .ok (.goto 4, 3) := by decide +kernel
theorem dX0_agrees_46 : decode cX0_agrees 46 = .ok (.iconst 0, 1) := by decide +kernel
theorem dX0_agrees_47 : decode cX0_agrees 47 = .ok (.ireturn, 1) := by decide +kernel
set_option maxHeartbeats 400000 in
set_option maxRecDepth 20000 in
theorem cc_agrees {l : Launch} {E : Ev} {P : Value → AH → Prop}  {a u : Nat} {cf un : Int32} {H : Nat → Int32} {h : AH} (ha : h a = some (.inr (1, [.ref u, .int cf, .int un]))) (hu : h u = some (.inl (E.2.2 1, 6, .inl H))) (k1 : csum H ≤ 100 → P (.int 1) h) (k0 : ¬ csum H ≤ 100 → P (.int 0) h) : Mt l E yX0_agrees cX0_agrees 6 (some .boolean) 0 0 0 0 [.ref a] (h) P := by
  refine Mt.of (by decide) (Nat.le_of_ble_eq_true rfl) ?_
  intro K hK hR C
  refine g_iconst (n := 1) (v := 0) C dX0_agrees_0 rfl (by decide) ?_
  refine g_istore_n (n := 2) C dX0_agrees_1 rfl (by decide) ?_
  refine g_aload_n (n := 3) C dX0_agrees_2 rfl rfl ?_
  refine g_get (n := 6) (T := TX0) C 0 dX0_agrees_3 rfl ha rfl rfl (by decide) inX0 w_179 rfl ?_
  refine g_astore_n (n := 7) C dX0_agrees_6 rfl (by decide) ?_
  refine g_aload_n (n := 8) C dX0_agrees_7 rfl rfl ?_
  refine g_alen (n := 9) (v := 6) C 1 dX0_agrees_8 rfl hu rfl rfl ?_
  refine g_istore_n (n := 10) C dX0_agrees_9 rfl (by decide) ?_
  refine g_iconst (n := 11) (v := 0) C dX0_agrees_10 rfl (by decide) ?_
  refine g_istore (n := 13) C dX0_agrees_11 rfl (by decide) ?_
  refine g_iload (n := 15) C dX0_agrees_13 rfl rfl ?_
  refine g_iload_n (n := 16) C dX0_agrees_15 rfl rfl ?_
  refine g_icmp_ge (n := 19) (t := 36) C dX0_agrees_16 rfl (by decide) (fun zc16 => ?_) (fun zc16 => ?_)
  · exact absurd zc16 (by decide)
  refine g_aload_n (n := 20) C dX0_agrees_19 rfl rfl ?_
  refine g_iload (n := 22) C dX0_agrees_20 rfl rfl ?_
  refine f_iald (n := 23) (0) C dX0_agrees_22 rfl hu rfl (by decide) (by decide) (rfl) ?_
  refine g_istore (n := 25) C dX0_agrees_23 rfl (by decide) ?_
  refine g_iload_n (n := 26) C dX0_agrees_25 rfl rfl ?_
  refine g_iload (n := 28) C dX0_agrees_26 rfl rfl ?_
  refine g_iadd (n := 29) C dX0_agrees_28 rfl ?_
  refine g_istore_n (n := 30) C dX0_agrees_29 rfl (by decide) ?_
  refine g_iinc (n := 33) (v := 1) C dX0_agrees_30 rfl rfl (by decide) (by decide) ?_
  refine g_goto (t := 13) C dX0_agrees_33 (by decide) ?_
  refine g_iload (n := 15) C dX0_agrees_13 rfl rfl ?_
  refine g_iload_n (n := 16) C dX0_agrees_15 rfl rfl ?_
  refine g_icmp_ge (n := 19) (t := 36) C dX0_agrees_16 rfl (by decide) (fun zc16 => ?_) (fun zc16 => ?_)
  · exact absurd zc16 (by decide)
  refine g_aload_n (n := 20) C dX0_agrees_19 rfl rfl ?_
  refine g_iload (n := 22) C dX0_agrees_20 rfl rfl ?_
  refine f_iald (n := 23) (1) C dX0_agrees_22 rfl hu rfl (by decide) (by decide) (rfl) ?_
  refine g_istore (n := 25) C dX0_agrees_23 rfl (by decide) ?_
  refine g_iload_n (n := 26) C dX0_agrees_25 rfl rfl ?_
  refine g_iload (n := 28) C dX0_agrees_26 rfl rfl ?_
  refine g_iadd (n := 29) C dX0_agrees_28 rfl ?_
  refine g_istore_n (n := 30) C dX0_agrees_29 rfl (by decide) ?_
  refine g_iinc (n := 33) (v := 2) C dX0_agrees_30 rfl rfl (by decide) (by decide) ?_
  refine g_goto (t := 13) C dX0_agrees_33 (by decide) ?_
  refine g_iload (n := 15) C dX0_agrees_13 rfl rfl ?_
  refine g_iload_n (n := 16) C dX0_agrees_15 rfl rfl ?_
  refine g_icmp_ge (n := 19) (t := 36) C dX0_agrees_16 rfl (by decide) (fun zc16 => ?_) (fun zc16 => ?_)
  · exact absurd zc16 (by decide)
  refine g_aload_n (n := 20) C dX0_agrees_19 rfl rfl ?_
  refine g_iload (n := 22) C dX0_agrees_20 rfl rfl ?_
  refine f_iald (n := 23) (2) C dX0_agrees_22 rfl hu rfl (by decide) (by decide) (rfl) ?_
  refine g_istore (n := 25) C dX0_agrees_23 rfl (by decide) ?_
  refine g_iload_n (n := 26) C dX0_agrees_25 rfl rfl ?_
  refine g_iload (n := 28) C dX0_agrees_26 rfl rfl ?_
  refine g_iadd (n := 29) C dX0_agrees_28 rfl ?_
  refine g_istore_n (n := 30) C dX0_agrees_29 rfl (by decide) ?_
  refine g_iinc (n := 33) (v := 3) C dX0_agrees_30 rfl rfl (by decide) (by decide) ?_
  refine g_goto (t := 13) C dX0_agrees_33 (by decide) ?_
  refine g_iload (n := 15) C dX0_agrees_13 rfl rfl ?_
  refine g_iload_n (n := 16) C dX0_agrees_15 rfl rfl ?_
  refine g_icmp_ge (n := 19) (t := 36) C dX0_agrees_16 rfl (by decide) (fun zc16 => ?_) (fun zc16 => ?_)
  · exact absurd zc16 (by decide)
  refine g_aload_n (n := 20) C dX0_agrees_19 rfl rfl ?_
  refine g_iload (n := 22) C dX0_agrees_20 rfl rfl ?_
  refine f_iald (n := 23) (3) C dX0_agrees_22 rfl hu rfl (by decide) (by decide) (rfl) ?_
  refine g_istore (n := 25) C dX0_agrees_23 rfl (by decide) ?_
  refine g_iload_n (n := 26) C dX0_agrees_25 rfl rfl ?_
  refine g_iload (n := 28) C dX0_agrees_26 rfl rfl ?_
  refine g_iadd (n := 29) C dX0_agrees_28 rfl ?_
  refine g_istore_n (n := 30) C dX0_agrees_29 rfl (by decide) ?_
  refine g_iinc (n := 33) (v := 4) C dX0_agrees_30 rfl rfl (by decide) (by decide) ?_
  refine g_goto (t := 13) C dX0_agrees_33 (by decide) ?_
  refine g_iload (n := 15) C dX0_agrees_13 rfl rfl ?_
  refine g_iload_n (n := 16) C dX0_agrees_15 rfl rfl ?_
  refine g_icmp_ge (n := 19) (t := 36) C dX0_agrees_16 rfl (by decide) (fun zc16 => ?_) (fun zc16 => ?_)
  · exact absurd zc16 (by decide)
  refine g_aload_n (n := 20) C dX0_agrees_19 rfl rfl ?_
  refine g_iload (n := 22) C dX0_agrees_20 rfl rfl ?_
  refine f_iald (n := 23) (4) C dX0_agrees_22 rfl hu rfl (by decide) (by decide) (rfl) ?_
  refine g_istore (n := 25) C dX0_agrees_23 rfl (by decide) ?_
  refine g_iload_n (n := 26) C dX0_agrees_25 rfl rfl ?_
  refine g_iload (n := 28) C dX0_agrees_26 rfl rfl ?_
  refine g_iadd (n := 29) C dX0_agrees_28 rfl ?_
  refine g_istore_n (n := 30) C dX0_agrees_29 rfl (by decide) ?_
  refine g_iinc (n := 33) (v := 5) C dX0_agrees_30 rfl rfl (by decide) (by decide) ?_
  refine g_goto (t := 13) C dX0_agrees_33 (by decide) ?_
  refine g_iload (n := 15) C dX0_agrees_13 rfl rfl ?_
  refine g_iload_n (n := 16) C dX0_agrees_15 rfl rfl ?_
  refine g_icmp_ge (n := 19) (t := 36) C dX0_agrees_16 rfl (by decide) (fun zc16 => ?_) (fun zc16 => ?_)
  · exact absurd zc16 (by decide)
  refine g_aload_n (n := 20) C dX0_agrees_19 rfl rfl ?_
  refine g_iload (n := 22) C dX0_agrees_20 rfl rfl ?_
  refine f_iald (n := 23) (5) C dX0_agrees_22 rfl hu rfl (by decide) (by decide) (rfl) ?_
  refine g_istore (n := 25) C dX0_agrees_23 rfl (by decide) ?_
  refine g_iload_n (n := 26) C dX0_agrees_25 rfl rfl ?_
  refine g_iload (n := 28) C dX0_agrees_26 rfl rfl ?_
  refine g_iadd (n := 29) C dX0_agrees_28 rfl ?_
  refine g_istore_n (n := 30) C dX0_agrees_29 rfl (by decide) ?_
  refine g_iinc (n := 33) (v := 6) C dX0_agrees_30 rfl rfl (by decide) (by decide) ?_
  refine g_goto (t := 13) C dX0_agrees_33 (by decide) ?_
  refine g_iload (n := 15) C dX0_agrees_13 rfl rfl ?_
  refine g_iload_n (n := 16) C dX0_agrees_15 rfl rfl ?_
  refine g_icmp_ge (n := 19) (t := 36) C dX0_agrees_16 rfl (by decide) (fun zc16 => ?_) (fun zc16 => ?_)
  rotate_left
  · exact absurd zc16 (by decide)
  refine g_iload_n (n := 37) C dX0_agrees_36 rfl rfl ?_
  refine g_bipush (n := 39) (v := 100) C dX0_agrees_37 rfl (by decide) ?_
  refine g_icmp_gt (n := 42) (t := 46) C dX0_agrees_39 rfl (by decide) (fun zc39 => ?_) (fun zc39 => ?_)
  · --t39
    refine g_iconst (n := 47) (v := 0) C dX0_agrees_46 rfl (by decide) ?_
    refine g_zret C dX0_agrees_47 (by decide) (by decide) (by rfl) ?_
    exact k0 (Int32.not_le.mpr zc39)
  · --f39
    refine g_iconst (n := 43) (v := 1) C dX0_agrees_42 rfl (by decide) ?_
    refine g_goto (t := 47) C dX0_agrees_43 (by decide) ?_
    refine g_zret C dX0_agrees_47 (by decide) (by decide) (by rfl) ?_
    exact k1 (Int32.not_lt.mp zc39)
theorem dX0_init_0 : decode cX0_init 0 = .ok (.aload_n 0, 1) := by decide +kernel
theorem dX0_init_1 : decode cX0_init 1 = .ok (.invokespecial 3, 3) := by decide +kernel
theorem dX0_init_4 : decode cX0_init 4 = .ok (.aload_n 0, 1) := by decide +kernel
theorem dX0_init_5 : decode cX0_init 5 = .ok (.bipush 6, 2) := by decide +kernel
theorem dX0_init_7 : decode cX0_init 7 = .ok (.newarray .int, 2) := by decide +kernel
theorem dX0_init_9 : decode cX0_init 9 = .ok (.putfield 9, 3) := by decide +kernel
theorem dX0_init_12 : decode cX0_init 12 = .ok (.return_, 1) := by decide +kernel
set_option maxHeartbeats 400000 in
set_option maxRecDepth 20000 in
theorem cc_agrInit {l : Launch} {E : Ev} {P : Value → AH → Prop}  {a : Nat} {h : AH} (hp : ∀ u, u ∉ [a] → h u = none → P .null (LW [(a, .inr (1, [.ref u, .int 0, .int 0])), (u, .inl (E.2.2 1, 6, .inl (fun _ => 0)))] h)) : Mt l E yX0_init cX0_init 1 none 2 40 1 6 [.ref a] (LW [(a, .inr (1, [.null, .int 0, .int 0]))] h) P := by
  refine Mt.of (by decide) (Nat.le_of_ble_eq_true rfl) ?_
  intro K hK hR C
  have A0 : lA [(a, (.inr (1, [.null, .int 0, .int 0]) : va_E))] := lA_one _ _
  refine g_aload_n (n := 1) C dX0_init_0 rfl rfl ?_
  refine g_callIN (n := 4) (As := []) C dX0_init_1 rfl mw_X1_init t_178 rfl rfl (room hR rfl) (cc_clInit ?_)
  refine g_aload_n (n := 5) C dX0_init_4 rfl rfl ?_
  refine g_bipush (n := 7) (v := 6) C dX0_init_5 rfl (by decide) ?_
  refine g_newa (n := 9) C 1 (N := 6) (a0 := (6, .inl (fun _ => 0))) dX0_init_7 rfl rfl rfl (fun _ h => h) w_142 (fun _ => rfl) (by decide) (by decide) (by decide) (roomC hR rfl) (roomS hR rfl) ?_
  intro u zfu zeu
  have Au := lA_new (e := .inl (E.2.2 1, 6, .inl (fun _ => 0))) A0 zfu
  have znu := LW_none zfu
  rw [LW_new zfu]
  dsimp only [List.cons_append, List.nil_append] at Au ⊢
  refine l_putF (n := 12) (T := TX0) (ty0 := tyX0) C 0 0 dX0_init_9 rfl Au rfl rfl (by decide) inX0 w_179 rfl tyX0_ok nmX0 rfl rfl rfl rfl rfl rfl (by show 0 < 3; decide) ?_
  dsimp only [List.set]
  refine g_vret C dX0_init_12 (by decide) (by decide) ?_
  exact hp u znu.1 znu.2
def cp0 (cf x co : Int32) : Int32 := if cf = 0 then 0 else imin x co
def cp3 (H : Nat → Int32) (un lh lf : Int32) : Int32 := imin (csh H lf 3) (imax 0 (un - lh))
def cp4 (H : Nat → Int32) (un lh lf : Int32) : Int32 := lf - csh H lf 1 - csh H lf 2 - cp3 H un lh lf - csh H lf 5
/-- a price x parted into six -/
def cpr (H : Nat → Int32) (cf un x co lh : Int32) : Nat → Int32 := fun k => match k with
  | 0 => cp0 cf x co
  | 1 => csh H (x - cp0 cf x co) 1
  | 2 => csh H (x - cp0 cf x co) 2
  | 3 => cp3 H un lh (x - cp0 cf x co)
  | 4 => cp4 H un lh (x - cp0 cf x co)
  | _ => csh H (x - cp0 cf x co) 5
