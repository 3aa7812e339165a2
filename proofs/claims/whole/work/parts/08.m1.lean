theorem dX11_thrown_0 : decode cX11_thrown 0 = .ok (.aload_n 0, 1) := by decide +kernel
theorem dX11_thrown_1 : decode cX11_thrown 1 = .ok (.getfield 76, 3) := by decide +kernel
theorem dX11_thrown_4 : decode cX11_thrown 4 = .ok (.ireturn, 1) := by decide +kernel
set_option maxHeartbeats 400000 in
set_option maxRecDepth 20000 in
theorem ct_thrown {l : Launch} {E : Ev} {P : Value → AH → Prop} {o : Nat} {ad : Nat → Nat} {F : Nat → Int32} {A : Nat → Nat → Int32} {h : AH}  (hp : P (.int (F 0)) (mh E o ad F A h)) : Mt l E yX11_thrown cX11_thrown 1 (some .int) 0 0 0 0 [.ref o] (mh E o ad F A h) P := by
  refine Mt.of (by decide) (Nat.le_of_ble_eq_true rfl) ?_
  intro K hK hR C
  refine g_aload_n (n := 1) C dX11_thrown_0 rfl rfl ?_
  refine m_get (n := 4) 0 C dX11_thrown_1 rfl (by decide) rfl w_1100 rfl ?_
  refine g_iret C dX11_thrown_4 (by decide) (by decide) ?_
  exact hp
theorem dX11_throwsIf_0 : decode cX11_throwsIf 0 = .ok (.iload_n 1, 1) := by decide +kernel
theorem dX11_throwsIf_1 : decode cX11_throwsIf 1 = .ok (.ifCond .eq 8, 3) := by decide +kernel
theorem dX11_throwsIf_4 : decode cX11_throwsIf 4 = .ok (.aload_n 0, 1) := by decide +kernel
theorem dX11_throwsIf_5 : decode cX11_throwsIf 5 = .ok (.iload_n 2, 1) := by decide +kernel
theorem dX11_throwsIf_6 : decode cX11_throwsIf 6 = .ok (.putfield 76, 3) := by decide +kernel
theorem dX11_throwsIf_9 : decode cX11_throwsIf 9 = .ok (.iload_n 1, 1) := by decide +kernel
theorem dX11_throwsIf_10 : decode cX11_throwsIf 10 = .ok (.ireturn, 1) := by decide +kernel
set_option maxHeartbeats 400000 in
set_option maxRecDepth 20000 in
theorem ct_throwsIf1 {l : Launch} {E : Ev} {P : Value → AH → Prop} {o : Nat} {ad : Nat → Nat} {F : Nat → Int32} {A : Nat → Nat → Int32} {h : AH} {z : Int32} (hp : P (.int 1) (mh E o ad (upd F 0 z) A h)) : Mt l E yX11_throwsIf cX11_throwsIf 3 (some .boolean) 0 0 0 0 [.ref o, .int 1, .int z] (mh E o ad F A h) P := by
  refine Mt.of (by decide) (Nat.le_of_ble_eq_true rfl) ?_
  intro K hK hR C
  refine g_iload_n (n := 1) C dX11_throwsIf_0 rfl rfl ?_
  refine g_if_eq (n := 4) (t := 9) C dX11_throwsIf_1 rfl (by decide) (fun zc1 => ?_) (fun zc1 => ?_)
  · exact absurd zc1 (by decide)
  refine g_aload_n (n := 5) C dX11_throwsIf_4 rfl rfl ?_
  refine g_iload_n (n := 6) C dX11_throwsIf_5 rfl rfl ?_
  refine m_put (n := 9) 0 C dX11_throwsIf_6 rfl (by decide) w_1100 rfl rfl rfl mfs_0 ?_
  refine g_iload_n (n := 10) C dX11_throwsIf_9 rfl rfl ?_
  refine g_zret C dX11_throwsIf_10 (by decide) (by decide) (by rfl) ?_
  exact hp
set_option maxHeartbeats 400000 in
set_option maxRecDepth 20000 in
theorem ct_throwsIf0 {l : Launch} {E : Ev} {P : Value → AH → Prop} {o : Nat} {ad : Nat → Nat} {F : Nat → Int32} {A : Nat → Nat → Int32} {h : AH} {z : Int32} (hp : P (.int 0) (mh E o ad F A h)) : Mt l E yX11_throwsIf cX11_throwsIf 3 (some .boolean) 0 0 0 0 [.ref o, .int 0, .int z] (mh E o ad F A h) P := by
  refine Mt.of (by decide) (Nat.le_of_ble_eq_true rfl) ?_
  intro K hK hR C
  refine g_iload_n (n := 1) C dX11_throwsIf_0 rfl rfl ?_
  refine g_if_eq (n := 4) (t := 9) C dX11_throwsIf_1 rfl (by decide) (fun zc1 => ?_) (fun zc1 => ?_)
  rotate_left
  · exact absurd zc1 (by decide)
  refine g_iload_n (n := 10) C dX11_throwsIf_9 rfl rfl ?_
  refine g_zret C dX11_throwsIf_10 (by decide) (by decide) (by rfl) ?_
  exact hp
theorem dX11_in_0 : decode cX11_in 0 = .ok (.iload_n 0, 1) := by decide +kernel
theorem dX11_in_1 : decode cX11_in 1 = .ok (.iload_n 1, 1) := by decide +kernel
theorem dX11_in_2 : decode cX11_in 2 = .ok (.if_icmp .lt 12, 3) := by decide +kernel
theorem dX11_in_5 : decode cX11_in 5 = .ok (.iload_n 0, 1) := by decide +kernel
theorem dX11_in_6 : decode cX11_in 6 = .ok (.iload_n 2, 1) := by decide +kernel
theorem dX11_in_7 : decode cX11_in 7 = .ok (.if_icmp .gt 7, 3) := by decide +kernel
theorem dX11_in_10 : decode cX11_in 10 = .ok (.iconst 1, 1) := by decide +kernel
theorem dX11_in_11 : decode cX11_in 11 = .ok (.goto 4, 3) := by decide +kernel
theorem dX11_in_14 : decode cX11_in 14 = .ok (.iconst 0, 1) := by decide +kernel
theorem dX11_in_15 : decode cX11_in 15 = .ok (.ireturn, 1) := by decide +kernel
set_option maxHeartbeats 400000 in
set_option maxRecDepth 20000 in
theorem ct_in {l : Launch} {E : Ev} {P : Value → AH → Prop}  {h : AH} {a lo hi : Int32} (k1 : ¬ a < lo → ¬ hi < a → P (.int 1) h) (k2 : a < lo → P (.int 0) h) (k3 : ¬ a < lo → hi < a → P (.int 0) h) : Mt l E yX11_in cX11_in 3 (some .boolean) 0 0 0 0 [.int a, .int lo, .int hi] (h) P := by
  refine Mt.of (by decide) (Nat.le_of_ble_eq_true rfl) ?_
  intro K hK hR C
  refine g_iload_n (n := 1) C dX11_in_0 rfl rfl ?_
  refine g_iload_n (n := 2) C dX11_in_1 rfl rfl ?_
  refine g_icmp_lt (n := 5) (t := 14) C dX11_in_2 rfl (by decide) (fun zc2 => ?_) (fun zc2 => ?_)
  · --t2
    refine g_iconst (n := 15) (v := 0) C dX11_in_14 rfl (by decide) ?_
    refine g_zret C dX11_in_15 (by decide) (by decide) (by rfl) ?_
    first | exact k1 zc2 zc7 | exact k2 zc2 | exact k3 zc2 zc7
  · --f2
    refine g_iload_n (n := 6) C dX11_in_5 rfl rfl ?_
    refine g_iload_n (n := 7) C dX11_in_6 rfl rfl ?_
    refine g_icmp_gt (n := 10) (t := 14) C dX11_in_7 rfl (by decide) (fun zc7 => ?_) (fun zc7 => ?_)
    · --t7
      refine g_iconst (n := 15) (v := 0) C dX11_in_14 rfl (by decide) ?_
      refine g_zret C dX11_in_15 (by decide) (by decide) (by rfl) ?_
      first | exact k1 zc2 zc7 | exact k2 zc2 | exact k3 zc2 zc7
    · --f7
      refine g_iconst (n := 11) (v := 1) C dX11_in_10 rfl (by decide) ?_
      refine g_goto (t := 15) C dX11_in_11 (by decide) ?_
      refine g_zret C dX11_in_15 (by decide) (by decide) (by rfl) ?_
      first | exact k1 zc2 zc7 | exact k2 zc2 | exact k3 zc2 zc7
theorem dX11_noSquare_0 : decode cX11_noSquare 0 = .ok (.iload_n 0, 1) := by decide +kernel
theorem dX11_noSquare_1 : decode cX11_noSquare 1 = .ok (.iconst 0, 1) := by decide +kernel
theorem dX11_noSquare_2 : decode cX11_noSquare 2 = .ok (.bipush 95, 2) := by decide +kernel
theorem dX11_noSquare_4 : decode cX11_noSquare 4 = .ok (.invokestatic 79, 3) := by decide +kernel
theorem dX11_noSquare_7 : decode cX11_noSquare 7 = .ok (.ifCond .ne 7, 3) := by decide +kernel
theorem dX11_noSquare_10 : decode cX11_noSquare 10 = .ok (.iconst 1, 1) := by decide +kernel
theorem dX11_noSquare_11 : decode cX11_noSquare 11 = .ok (.goto 4, 3) := by decide +kernel
theorem dX11_noSquare_14 : decode cX11_noSquare 14 = .ok (.iconst 0, 1) := by decide +kernel
theorem dX11_noSquare_15 : decode cX11_noSquare 15 = .ok (.ireturn, 1) := by decide +kernel
set_option maxHeartbeats 400000 in
set_option maxRecDepth 20000 in
theorem ct_noSquare {l : Launch} {E : Ev} {P : Value → AH → Prop}  {h : AH} {a : Int32} (k1 : ¬ a < 0 → ¬ 95 < a → P (.int 0) h) (k2 : a < 0 ∨ 95 < a → P (.int 1) h) : Mt l E yX11_noSquare cX11_noSquare 1 (some .boolean) 1 22 0 0 [.int a] (h) P := by
  refine Mt.of (by decide) (Nat.le_of_ble_eq_true rfl) ?_
  intro K hK hR C
  refine g_iload_n (n := 1) C dX11_noSquare_0 rfl rfl ?_
  refine g_iconst (n := 2) (v := 0) C dX11_noSquare_1 rfl (by decide) ?_
  refine g_bipush (n := 4) (v := 95) C dX11_noSquare_2 rfl (by decide) ?_
  refine g_callS (n := 7) (As := [.int _, .int _, .int _]) C dX11_noSquare_4 rfl mw_X11_in w_1273 rfl rfl (room hR rfl) (ct_in (fun za4 zb4 => ?_) (fun za4 => ?_) (fun za4 zb4 => ?_))
  · --k4.0
    refine g_if_ne (n := 10) (t := 14) C dX11_noSquare_7 rfl (by decide) (fun zc7 => ?_) (fun zc7 => ?_)
    rotate_left
    · exact absurd zc7 (by decide)
    refine g_iconst (n := 15) (v := 0) C dX11_noSquare_14 rfl (by decide) ?_
    refine g_zret C dX11_noSquare_15 (by decide) (by decide) (by rfl) ?_
    first | exact k1 (by assumption) (by assumption) | exact k2 (Or.inl (by assumption)) | exact k2 (Or.inr (by assumption))
  · --k4.1
    refine g_if_ne (n := 10) (t := 14) C dX11_noSquare_7 rfl (by decide) (fun zc7 => ?_) (fun zc7 => ?_)
    · exact absurd zc7 (by decide)
    refine g_iconst (n := 11) (v := 1) C dX11_noSquare_10 rfl (by decide) ?_
    refine g_goto (t := 15) C dX11_noSquare_11 (by decide) ?_
    refine g_zret C dX11_noSquare_15 (by decide) (by decide) (by rfl) ?_
    first | exact k1 (by assumption) (by assumption) | exact k2 (Or.inl (by assumption)) | exact k2 (Or.inr (by assumption))
  · --k4.2
    refine g_if_ne (n := 10) (t := 14) C dX11_noSquare_7 rfl (by decide) (fun zc7 => ?_) (fun zc7 => ?_)
    · exact absurd zc7 (by decide)
    refine g_iconst (n := 11) (v := 1) C dX11_noSquare_10 rfl (by decide) ?_
    refine g_goto (t := 15) C dX11_noSquare_11 (by decide) ?_
    refine g_zret C dX11_noSquare_15 (by decide) (by decide) (by rfl) ?_
    first | exact k1 (by assumption) (by assumption) | exact k2 (Or.inl (by assumption)) | exact k2 (Or.inr (by assumption))
theorem dX11_noPit_0 : decode cX11_noPit 0 = .ok (.iload_n 1, 1) := by decide +kernel
theorem dX11_noPit_1 : decode cX11_noPit 1 = .ok (.iconst 0, 1) := by decide +kernel
theorem dX11_noPit_2 : decode cX11_noPit 2 = .ok (.aload_n 0, 1) := by decide +kernel
theorem dX11_noPit_3 : decode cX11_noPit 3 = .ok (.getfield 83, 3) := by decide +kernel
theorem dX11_noPit_6 : decode cX11_noPit 6 = .ok (.iconst 1, 1) := by decide +kernel
theorem dX11_noPit_7 : decode cX11_noPit 7 = .ok (.isub, 1) := by decide +kernel
theorem dX11_noPit_8 : decode cX11_noPit 8 = .ok (.invokestatic 79, 3) := by decide +kernel
theorem dX11_noPit_11 : decode cX11_noPit 11 = .ok (.ifCond .ne 7, 3) := by decide +kernel
theorem dX11_noPit_14 : decode cX11_noPit 14 = .ok (.iconst 1, 1) := by decide +kernel
theorem dX11_noPit_15 : decode cX11_noPit 15 = .ok (.goto 4, 3) := by decide +kernel
theorem dX11_noPit_18 : decode cX11_noPit 18 = .ok (.iconst 0, 1) := by decide +kernel
theorem dX11_noPit_19 : decode cX11_noPit 19 = .ok (.ireturn, 1) := by decide +kernel
set_option maxHeartbeats 400000 in
set_option maxRecDepth 20000 in
theorem ct_noPit {l : Launch} {E : Ev} {P : Value → AH → Prop} {o : Nat} {ad : Nat → Nat} {F : Nat → Int32} {A : Nat → Nat → Int32} {h : AH} {a : Int32} (k1 : ¬ a < 0 → ¬ F 9 - 1 < a → P (.int 0) (mh E o ad F A h)) (k2 : a < 0 ∨ F 9 - 1 < a → P (.int 1) (mh E o ad F A h)) : Mt l E yX11_noPit cX11_noPit 2 (some .boolean) 1 22 0 0 [.ref o, .int a] (mh E o ad F A h) P := by
  refine Mt.of (by decide) (Nat.le_of_ble_eq_true rfl) ?_
  intro K hK hR C
  refine g_iload_n (n := 1) C dX11_noPit_0 rfl rfl ?_
  refine g_iconst (n := 2) (v := 0) C dX11_noPit_1 rfl (by decide) ?_
  refine g_aload_n (n := 3) C dX11_noPit_2 rfl rfl ?_
  refine m_get (n := 6) 9 C dX11_noPit_3 rfl (by decide) rfl w_1109 rfl ?_
  refine g_iconst (n := 7) (v := 1) C dX11_noPit_6 rfl (by decide) ?_
  refine g_isub (n := 8) C dX11_noPit_7 rfl ?_
  refine g_callS (n := 11) (As := [.int _, .int _, .int _]) C dX11_noPit_8 rfl mw_X11_in w_1273 rfl rfl (room hR rfl) (ct_in (fun za8 zb8 => ?_) (fun za8 => ?_) (fun za8 zb8 => ?_))
  · --k8.0
    refine g_if_ne (n := 14) (t := 18) C dX11_noPit_11 rfl (by decide) (fun zc11 => ?_) (fun zc11 => ?_)
    rotate_left
    · exact absurd zc11 (by decide)
    refine g_iconst (n := 19) (v := 0) C dX11_noPit_18 rfl (by decide) ?_
    refine g_zret C dX11_noPit_19 (by decide) (by decide) (by rfl) ?_
    first | exact k1 (by assumption) (by assumption) | exact k2 (Or.inl (by assumption)) | exact k2 (Or.inr (by assumption))
  · --k8.1
    refine g_if_ne (n := 14) (t := 18) C dX11_noPit_11 rfl (by decide) (fun zc11 => ?_) (fun zc11 => ?_)
    · exact absurd zc11 (by decide)
    refine g_iconst (n := 15) (v := 1) C dX11_noPit_14 rfl (by decide) ?_
    refine g_goto (t := 19) C dX11_noPit_15 (by decide) ?_
    refine g_zret C dX11_noPit_19 (by decide) (by decide) (by rfl) ?_
    first | exact k1 (by assumption) (by assumption) | exact k2 (Or.inl (by assumption)) | exact k2 (Or.inr (by assumption))
  · --k8.2
    refine g_if_ne (n := 14) (t := 18) C dX11_noPit_11 rfl (by decide) (fun zc11 => ?_) (fun zc11 => ?_)
    · exact absurd zc11 (by decide)
    refine g_iconst (n := 15) (v := 1) C dX11_noPit_14 rfl (by decide) ?_
    refine g_goto (t := 19) C dX11_noPit_15 (by decide) ?_
    refine g_zret C dX11_noPit_19 (by decide) (by decide) (by rfl) ?_
    first | exact k1 (by assumption) (by assumption) | exact k2 (Or.inl (by assumption)) | exact k2 (Or.inr (by assumption))
theorem dX11_noStone_0 : decode cX11_noStone 0 = .ok (.iload_n 1, 1) := by decide +kernel
theorem dX11_noStone_1 : decode cX11_noStone 1 = .ok (.iconst 0, 1) := by decide +kernel
theorem dX11_noStone_2 : decode cX11_noStone 2 = .ok (.aload_n 0, 1) := by decide +kernel
theorem dX11_noStone_3 : decode cX11_noStone 3 = .ok (.getfield 86, 3) := by decide +kernel
theorem dX11_noStone_6 : decode cX11_noStone 6 = .ok (.iconst 1, 1) := by decide +kernel
theorem dX11_noStone_7 : decode cX11_noStone 7 = .ok (.isub, 1) := by decide +kernel
theorem dX11_noStone_8 : decode cX11_noStone 8 = .ok (.invokestatic 79, 3) := by decide +kernel
theorem dX11_noStone_11 : decode cX11_noStone 11 = .ok (.ifCond .ne 7, 3) := by decide +kernel
theorem dX11_noStone_14 : decode cX11_noStone 14 = .ok (.iconst 1, 1) := by decide +kernel
theorem dX11_noStone_15 : decode cX11_noStone 15 = .ok (.goto 4, 3) := by decide +kernel
theorem dX11_noStone_18 : decode cX11_noStone 18 = .ok (.iconst 0, 1) := by decide +kernel
theorem dX11_noStone_19 : decode cX11_noStone 19 = .ok (.ireturn, 1) := by decide +kernel
set_option maxHeartbeats 400000 in
set_option maxRecDepth 20000 in
theorem ct_noStone {l : Launch} {E : Ev} {P : Value → AH → Prop} {o : Nat} {ad : Nat → Nat} {F : Nat → Int32} {A : Nat → Nat → Int32} {h : AH} {a : Int32} (k1 : ¬ a < 0 → ¬ F 23 - 1 < a → P (.int 0) (mh E o ad F A h)) (k2 : a < 0 ∨ F 23 - 1 < a → P (.int 1) (mh E o ad F A h)) : Mt l E yX11_noStone cX11_noStone 2 (some .boolean) 1 22 0 0 [.ref o, .int a] (mh E o ad F A h) P := by
  refine Mt.of (by decide) (Nat.le_of_ble_eq_true rfl) ?_
  intro K hK hR C
  refine g_iload_n (n := 1) C dX11_noStone_0 rfl rfl ?_
  refine g_iconst (n := 2) (v := 0) C dX11_noStone_1 rfl (by decide) ?_
  refine g_aload_n (n := 3) C dX11_noStone_2 rfl rfl ?_
  refine m_get (n := 6) 23 C dX11_noStone_3 rfl (by decide) rfl w_1123 rfl ?_
  refine g_iconst (n := 7) (v := 1) C dX11_noStone_6 rfl (by decide) ?_
  refine g_isub (n := 8) C dX11_noStone_7 rfl ?_
  refine g_callS (n := 11) (As := [.int _, .int _, .int _]) C dX11_noStone_8 rfl mw_X11_in w_1273 rfl rfl (room hR rfl) (ct_in (fun za8 zb8 => ?_) (fun za8 => ?_) (fun za8 zb8 => ?_))
  · --k8.0
    refine g_if_ne (n := 14) (t := 18) C dX11_noStone_11 rfl (by decide) (fun zc11 => ?_) (fun zc11 => ?_)
    rotate_left
    · exact absurd zc11 (by decide)
    refine g_iconst (n := 19) (v := 0) C dX11_noStone_18 rfl (by decide) ?_
    refine g_zret C dX11_noStone_19 (by decide) (by decide) (by rfl) ?_
    first | exact k1 (by assumption) (by assumption) | exact k2 (Or.inl (by assumption)) | exact k2 (Or.inr (by assumption))
  · --k8.1
    refine g_if_ne (n := 14) (t := 18) C dX11_noStone_11 rfl (by decide) (fun zc11 => ?_) (fun zc11 => ?_)
    · exact absurd zc11 (by decide)
    refine g_iconst (n := 15) (v := 1) C dX11_noStone_14 rfl (by decide) ?_
    refine g_goto (t := 19) C dX11_noStone_15 (by decide) ?_
    refine g_zret C dX11_noStone_19 (by decide) (by decide) (by rfl) ?_
    first | exact k1 (by assumption) (by assumption) | exact k2 (Or.inl (by assumption)) | exact k2 (Or.inr (by assumption))
  · --k8.2
    refine g_if_ne (n := 14) (t := 18) C dX11_noStone_11 rfl (by decide) (fun zc11 => ?_) (fun zc11 => ?_)
    · exact absurd zc11 (by decide)
    refine g_iconst (n := 15) (v := 1) C dX11_noStone_14 rfl (by decide) ?_
    refine g_goto (t := 19) C dX11_noStone_15 (by decide) ?_
    refine g_zret C dX11_noStone_19 (by decide) (by decide) (by rfl) ?_
    first | exact k1 (by assumption) (by assumption) | exact k2 (Or.inl (by assumption)) | exact k2 (Or.inr (by assumption))
theorem dX11_fault_0 : decode cX11_fault 0 = .ok (.aload_n 0, 1) := by decide +kernel
theorem dX11_fault_1 : decode cX11_fault 1 = .ok (.iconst 0, 1) := by decide +kernel
theorem dX11_fault_2 : decode cX11_fault 2 = .ok (.putfield 76, 3) := by decide +kernel
theorem dX11_fault_5 : decode cX11_fault 5 = .ok (.aload_n 0, 1) := by decide +kernel
theorem dX11_fault_6 : decode cX11_fault 6 = .ok (.getfield 45, 3) := by decide +kernel
theorem dX11_fault_9 : decode cX11_fault 9 = .ok (.ireturn, 1) := by decide +kernel
set_option maxHeartbeats 400000 in
set_option maxRecDepth 20000 in
theorem ct_fault {l : Launch} {E : Ev} {P : Value → AH → Prop} {o : Nat} {ad : Nat → Nat} {F : Nat → Int32} {A : Nat → Nat → Int32} {h : AH}  (hp : P (.int (F 19)) (mh E o ad (upd F 0 0) A h)) : Mt l E yX11_fault cX11_fault 1 (some .int) 1 20 0 0 [.ref o] (mh E o ad F A h) P := by
  refine Mt.of (by decide) (Nat.le_of_ble_eq_true rfl) ?_
  intro K hK hR C
  refine g_aload_n (n := 1) C dX11_fault_0 rfl rfl ?_
  refine g_iconst (n := 2) (v := 0) C dX11_fault_1 rfl (by decide) ?_
  refine m_put (n := 5) 0 C dX11_fault_2 rfl (by decide) w_1100 rfl rfl rfl mfs_0 ?_
  refine g_aload_n (n := 6) C dX11_fault_5 rfl rfl ?_
  refine m_get (n := 9) 19 C dX11_fault_6 rfl (by decide) rfl w_1119 rfl ?_
  refine g_iret C dX11_fault_9 (by decide) (by decide) ?_
  exact hp
theorem dX11_end_0 : decode cX11_end 0 = .ok (.aload_n 0, 1) := by decide +kernel
theorem dX11_end_1 : decode cX11_end 1 = .ok (.iconst 0, 1) := by decide +kernel
theorem dX11_end_2 : decode cX11_end 2 = .ok (.putfield 76, 3) := by decide +kernel
theorem dX11_end_5 : decode cX11_end 5 = .ok (.iload_n 1, 1) := by decide +kernel
theorem dX11_end_6 : decode cX11_end 6 = .ok (.ifCond .lt 11, 3) := by decide +kernel
theorem dX11_end_9 : decode cX11_end 9 = .ok (.iload_n 1, 1) := by decide +kernel
theorem dX11_end_10 : decode cX11_end 10 = .ok (.aload_n 0, 1) := by decide +kernel
theorem dX11_end_11 : decode cX11_end 11 = .ok (.getfield 89, 3) := by decide +kernel
theorem dX11_end_14 : decode cX11_end 14 = .ok (.if_icmp .le 5, 3) := by decide +kernel
theorem dX11_end_17 : decode cX11_end 17 = .ok (.iconst 0, 1) := by decide +kernel
theorem dX11_end_18 : decode cX11_end 18 = .ok (.ireturn, 1) := by decide +kernel
theorem dX11_end_19 : decode cX11_end 19 = .ok (.aload_n 0, 1) := by decide +kernel
theorem dX11_end_20 : decode cX11_end 20 = .ok (.iload_n 1, 1) := by decide +kernel
theorem dX11_end_21 : decode cX11_end 21 = .ok (.putfield 89, 3) := by decide +kernel
theorem dX11_end_24 : decode cX11_end 24 = .ok (.iconst 1, 1) := by decide +kernel
theorem dX11_end_25 : decode cX11_end 25 = .ok (.ireturn, 1) := by decide +kernel
set_option maxHeartbeats 400000 in
set_option maxRecDepth 20000 in
theorem ct_end {l : Launch} {E : Ev} {P : Value → AH → Prop} {o : Nat} {ad : Nat → Nat} {F : Nat → Int32} {A : Nat → Nat → Int32} {h : AH} {n : Int32} (k1 : n < 0 ∨ F 15 < n → P (.int 0) (mh E o ad (upd F 0 0) A h)) (k2 : ¬ n < 0 → ¬ F 15 < n → P (.int 1) (mh E o ad (upd (upd F 0 0) 15 n) A h)) : Mt l E yX11_end cX11_end 2 (some .boolean) 2 42 0 0 [.ref o, .int n] (mh E o ad F A h) P := by
  refine Mt.of (by decide) (Nat.le_of_ble_eq_true rfl) ?_
  intro K hK hR C
  refine g_aload_n (n := 1) C dX11_end_0 rfl rfl ?_
  refine g_iconst (n := 2) (v := 0) C dX11_end_1 rfl (by decide) ?_
  refine m_put (n := 5) 0 C dX11_end_2 rfl (by decide) w_1100 rfl rfl rfl mfs_0 ?_
  refine g_iload_n (n := 6) C dX11_end_5 rfl rfl ?_
  refine g_if_lt (n := 9) (t := 17) C dX11_end_6 rfl (by decide) (fun zc6 => ?_) (fun zc6 => ?_)
  · --t6
    refine g_iconst (n := 18) (v := 0) C dX11_end_17 rfl (by decide) ?_
    refine g_zret C dX11_end_18 (by decide) (by decide) (by rfl) ?_
    first | exact k2 zc6 (by simpa [upd] using zc14) | exact k1 (Or.inl zc6) | exact k1 (Or.inr (by simpa [upd] using zc14))
  · --f6
    refine g_iload_n (n := 10) C dX11_end_9 rfl rfl ?_
    refine g_aload_n (n := 11) C dX11_end_10 rfl rfl ?_
    refine m_get (n := 14) 15 C dX11_end_11 rfl (by decide) rfl w_1115 rfl ?_
    refine g_icmp_le (n := 17) (t := 19) C dX11_end_14 rfl (by decide) (fun zc14 => ?_) (fun zc14 => ?_)
    · --t14
      refine g_aload_n (n := 20) C dX11_end_19 rfl rfl ?_
      refine g_iload_n (n := 21) C dX11_end_20 rfl rfl ?_
      refine m_put (n := 24) 15 C dX11_end_21 rfl (by decide) w_1115 rfl rfl rfl mfs_15 ?_
      refine g_iconst (n := 25) (v := 1) C dX11_end_24 rfl (by decide) ?_
      refine g_zret C dX11_end_25 (by decide) (by decide) (by rfl) ?_
      first | exact k2 zc6 (by simpa [upd] using zc14) | exact k1 (Or.inl zc6) | exact k1 (Or.inr (by simpa [upd] using zc14))
    · --f14
      refine g_iconst (n := 18) (v := 0) C dX11_end_17 rfl (by decide) ?_
      refine g_zret C dX11_end_18 (by decide) (by decide) (by rfl) ?_
      first | exact k2 zc6 (by simpa [upd] using zc14) | exact k1 (Or.inl zc6) | exact k1 (Or.inr (by simpa [upd] using zc14))
theorem dX11_step_0 : decode cX11_step 0 = .ok (.aload_n 0, 1) := by decide +kernel
theorem dX11_step_1 : decode cX11_step 1 = .ok (.iconst 0, 1) := by decide +kernel
theorem dX11_step_2 : decode cX11_step 2 = .ok (.putfield 76, 3) := by decide +kernel
theorem dX11_step_5 : decode cX11_step 5 = .ok (.aload_n 0, 1) := by decide +kernel
theorem dX11_step_6 : decode cX11_step 6 = .ok (.iload_n 1, 1) := by decide +kernel
theorem dX11_step_7 : decode cX11_step 7 = .ok (.iconst 0, 1) := by decide +kernel
theorem dX11_step_8 : decode cX11_step 8 = .ok (.bipush 100, 2) := by decide +kernel
theorem dX11_step_10 : decode cX11_step 10 = .ok (.invokestatic 79, 3) := by decide +kernel
theorem dX11_step_13 : decode cX11_step 13 = .ok (.ifCond .ne 7, 3) := by decide +kernel
theorem dX11_step_16 : decode cX11_step 16 = .ok (.iconst 1, 1) := by decide +kernel
theorem dX11_step_17 : decode cX11_step 17 = .ok (.goto 4, 3) := by decide +kernel
theorem dX11_step_20 : decode cX11_step 20 = .ok (.iconst 0, 1) := by decide +kernel
theorem dX11_step_21 : decode cX11_step 21 = .ok (.iconst 1, 1) := by decide +kernel
theorem dX11_step_22 : decode cX11_step 22 = .ok (.invokevirtual 162, 3) := by decide +kernel
theorem dX11_step_25 : decode cX11_step 25 = .ok (.ifCond .eq 4, 3) := by decide +kernel
theorem dX11_step_28 : decode cX11_step 28 = .ok (.return_, 1) := by decide +kernel
theorem dX11_step_29 : decode cX11_step 29 = .ok (.aload_n 0, 1) := by decide +kernel
theorem dX11_step_30 : decode cX11_step 30 = .ok (.iload_n 1, 1) := by decide +kernel
theorem dX11_step_31 : decode cX11_step 31 = .ok (.putfield 7, 3) := by decide +kernel
theorem dX11_step_34 : decode cX11_step 34 = .ok (.return_, 1) := by decide +kernel
set_option maxHeartbeats 400000 in
set_option maxRecDepth 20000 in
theorem ct_step {l : Launch} {E : Ev} {P : Value → AH → Prop} {o : Nat} {ad : Nat → Nat} {F : Nat → Int32} {A : Nat → Nat → Int32} {h : AH} {n : Int32} (k1 : n < 0 ∨ 100 < n → P .null (mh E o ad (upd (upd F 0 0) 0 1) A h)) (k2 : ¬ n < 0 → ¬ 100 < n → P .null (mh E o ad (upd (upd F 0 0) 2 n) A h)) : Mt l E yX11_step cX11_step 2 none 7 111 0 0 [.ref o, .int n] (mh E o ad F A h) P := by
  refine Mt.of (by decide) (Nat.le_of_ble_eq_true rfl) ?_
  intro K hK hR C
  refine g_aload_n (n := 1) C dX11_step_0 rfl rfl ?_
  refine g_iconst (n := 2) (v := 0) C dX11_step_1 rfl (by decide) ?_
  refine m_put (n := 5) 0 C dX11_step_2 rfl (by decide) w_1100 rfl rfl rfl mfs_0 ?_
  refine g_aload_n (n := 6) C dX11_step_5 rfl rfl ?_
  refine g_iload_n (n := 7) C dX11_step_6 rfl rfl ?_
  refine g_iconst (n := 8) (v := 0) C dX11_step_7 rfl (by decide) ?_
  refine g_bipush (n := 10) (v := 100) C dX11_step_8 rfl (by decide) ?_
  refine g_callS (n := 13) (As := [.int _, .int _, .int _]) C dX11_step_10 rfl mw_X11_in w_1273 rfl rfl (room hR rfl) (ct_in (fun za10 zb10 => ?_) (fun za10 => ?_) (fun za10 zb10 => ?_))
  · --k10.0
    refine g_if_ne (n := 16) (t := 20) C dX11_step_13 rfl (by decide) (fun zc13 => ?_) (fun zc13 => ?_)
    rotate_left
    · exact absurd zc13 (by decide)
    refine g_iconst (n := 21) (v := 0) C dX11_step_20 rfl (by decide) ?_
    refine g_iconst (n := 22) (v := 1) C dX11_step_21 rfl (by decide) ?_
    refine g_callV (n := 25) (As := [.int _, .int _]) C dX11_step_22 rfl mw_X11_throwsIf w_1257 (g_recv C mh_o rfl) rfl rfl (room hR rfl) (ct_throwsIf0 ?_)
    refine g_if_eq (n := 28) (t := 29) C dX11_step_25 rfl (by decide) (fun zc25 => ?_) (fun zc25 => ?_)
    rotate_left
    · exact absurd zc25 (by decide)
    refine g_aload_n (n := 30) C dX11_step_29 rfl rfl ?_
    refine g_iload_n (n := 31) C dX11_step_30 rfl rfl ?_
    refine m_put (n := 34) 2 C dX11_step_31 rfl (by decide) w_1102 rfl rfl rfl mfs_2 ?_
    refine g_vret C dX11_step_34 (by decide) (by decide) ?_
    first | exact k2 (by assumption) (by assumption) | exact k1 (Or.inl (by assumption)) | exact k1 (Or.inr (by assumption))
  · --k10.1
    refine g_if_ne (n := 16) (t := 20) C dX11_step_13 rfl (by decide) (fun zc13 => ?_) (fun zc13 => ?_)
    · exact absurd zc13 (by decide)
    refine g_iconst (n := 17) (v := 1) C dX11_step_16 rfl (by decide) ?_
    refine g_goto (t := 21) C dX11_step_17 (by decide) ?_
    refine g_iconst (n := 22) (v := 1) C dX11_step_21 rfl (by decide) ?_
    refine g_callV (n := 25) (As := [.int _, .int _]) C dX11_step_22 rfl mw_X11_throwsIf w_1257 (g_recv C mh_o rfl) rfl rfl (room hR rfl) (ct_throwsIf1 ?_)
    refine g_if_eq (n := 28) (t := 29) C dX11_step_25 rfl (by decide) (fun zc25 => ?_) (fun zc25 => ?_)
    · exact absurd zc25 (by decide)
    refine g_vret C dX11_step_28 (by decide) (by decide) ?_
    first | exact k2 (by assumption) (by assumption) | exact k1 (Or.inl (by assumption)) | exact k1 (Or.inr (by assumption))
  · --k10.2
    refine g_if_ne (n := 16) (t := 20) C dX11_step_13 rfl (by decide) (fun zc13 => ?_) (fun zc13 => ?_)
    · exact absurd zc13 (by decide)
    refine g_iconst (n := 17) (v := 1) C dX11_step_16 rfl (by decide) ?_
    refine g_goto (t := 21) C dX11_step_17 (by decide) ?_
    refine g_iconst (n := 22) (v := 1) C dX11_step_21 rfl (by decide) ?_
    refine g_callV (n := 25) (As := [.int _, .int _]) C dX11_step_22 rfl mw_X11_throwsIf w_1257 (g_recv C mh_o rfl) rfl rfl (room hR rfl) (ct_throwsIf1 ?_)
    refine g_if_eq (n := 28) (t := 29) C dX11_step_25 rfl (by decide) (fun zc25 => ?_) (fun zc25 => ?_)
    · exact absurd zc25 (by decide)
    refine g_vret C dX11_step_28 (by decide) (by decide) ?_
    first | exact k2 (by assumption) (by assumption) | exact k1 (Or.inl (by assumption)) | exact k1 (Or.inr (by assumption))
