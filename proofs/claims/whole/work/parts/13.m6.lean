def fz (A : Nat → Nat → Int32) (p : Nat) : Nat → Nat → Int32 := fun a b => if a = 28 ∧ b < p then 0 else A a b
theorem fz_0 (A : Nat → Nat → Int32) : fz A 0 = A := by
  funext a b
  unfold fz
  rw [if_neg (fun q => absurd q.2 (Nat.not_lt_zero _))]
theorem fz_s (A : Nat → Nat → Int32) (p : Nat) : aset (fz A p) 28 p 0 = fz A (p + 1) := by
  funext a b
  unfold aset fz
  by_cases h1 : a = 28
  · rw [if_pos h1]
    by_cases h2 : b = p
    · rw [if_pos h2, if_pos ⟨h1, by omega⟩]
    · rw [if_neg h2]
      by_cases h3 : b < p
      · rw [if_pos ⟨h1, h3⟩, if_pos ⟨h1, by omega⟩]
      · rw [if_neg (fun q => h3 q.2), if_neg (fun q => by have := q.2; omega)]
  · rw [if_neg h1, if_neg (fun q => h1 q.1), if_neg (fun q => h1 q.1)]
def rplace (x y w h : Int32) : Int32 := ((8 * h + y) * 10 + w) * 10 + x
def npl (x y w h : Nat) : Nat := ((8 * h + y) * 10 + w) * 10 + x
theorem rplace_n (x y w h : Nat) : rplace (nI x) (nI y) (nI w) (nI h) = nI (npl x y w h) := by
  unfold rplace npl
  rw [show (8 : Int32) = nI 8 from rfl, show (10 : Int32) = nI 10 from rfl, pk_mul, nI_add, pk_mul, nI_add, pk_mul, nI_add]
/-- a piece from cell x, y on, w and h the sizes less 1, has no flaw -/
def rclr (Z : Nat → Int32) (x y w h : Nat) : Prop := ∀ j i, j ≤ h → i ≤ w → Z (10 * (y + j) + (x + i)) = 0
def rclr2 (Z : Nat → Int32) (x y w p q : Nat) : Prop := (∀ j i, j < p → i ≤ w → Z (10 * (y + j) + (x + i)) = 0) ∧ ∀ i, i < q → Z (10 * (y + p) + (x + i)) = 0
theorem dX11_rough_0 : decode cX11_rough 0 = .ok (.aload_n 0, 1) := by decide +kernel
theorem dX11_rough_1 : decode cX11_rough 1 = .ok (.iconst 0, 1) := by decide +kernel
theorem dX11_rough_2 : decode cX11_rough 2 = .ok (.putfield 76, 3) := by decide +kernel
theorem dX11_rough_5 : decode cX11_rough 5 = .ok (.aload_n 0, 1) := by decide +kernel
theorem dX11_rough_6 : decode cX11_rough 6 = .ok (.iload_n 1, 1) := by decide +kernel
theorem dX11_rough_7 : decode cX11_rough 7 = .ok (.iconst 1, 1) := by decide +kernel
theorem dX11_rough_8 : decode cX11_rough 8 = .ok (.bipush 10, 2) := by decide +kernel
theorem dX11_rough_10 : decode cX11_rough 10 = .ok (.invokestatic 79, 3) := by decide +kernel
theorem dX11_rough_13 : decode cX11_rough 13 = .ok (.ifCond .eq 13, 3) := by decide +kernel
theorem dX11_rough_16 : decode cX11_rough 16 = .ok (.iload_n 2, 1) := by decide +kernel
theorem dX11_rough_17 : decode cX11_rough 17 = .ok (.iconst 1, 1) := by decide +kernel
theorem dX11_rough_18 : decode cX11_rough 18 = .ok (.bipush 8, 2) := by decide +kernel
theorem dX11_rough_20 : decode cX11_rough 20 = .ok (.invokestatic 79, 3) := by decide +kernel
theorem dX11_rough_23 : decode cX11_rough 23 = .ok (.ifCond .ne 7, 3) := by decide +kernel
theorem dX11_rough_26 : decode cX11_rough 26 = .ok (.iconst 1, 1) := by decide +kernel
theorem dX11_rough_27 : decode cX11_rough 27 = .ok (.goto 4, 3) := by decide +kernel
theorem dX11_rough_30 : decode cX11_rough 30 = .ok (.iconst 0, 1) := by decide +kernel
theorem dX11_rough_31 : decode cX11_rough 31 = .ok (.iconst 1, 1) := by decide +kernel
theorem dX11_rough_32 : decode cX11_rough 32 = .ok (.invokevirtual 162, 3) := by decide +kernel
theorem dX11_rough_35 : decode cX11_rough 35 = .ok (.ifCond .eq 4, 3) := by decide +kernel
theorem dX11_rough_38 : decode cX11_rough 38 = .ok (.return_, 1) := by decide +kernel
theorem dX11_rough_39 : decode cX11_rough 39 = .ok (.aload_n 0, 1) := by decide +kernel
theorem dX11_rough_40 : decode cX11_rough 40 = .ok (.iload_n 1, 1) := by decide +kernel
theorem dX11_rough_41 : decode cX11_rough 41 = .ok (.putfield 60, 3) := by decide +kernel
theorem dX11_rough_44 : decode cX11_rough 44 = .ok (.aload_n 0, 1) := by decide +kernel
theorem dX11_rough_45 : decode cX11_rough 45 = .ok (.iload_n 2, 1) := by decide +kernel
theorem dX11_rough_46 : decode cX11_rough 46 = .ok (.putfield 63, 3) := by decide +kernel
theorem dX11_rough_49 : decode cX11_rough 49 = .ok (.iconst 0, 1) := by decide +kernel
theorem dX11_rough_50 : decode cX11_rough 50 = .ok (.istore_n 3, 1) := by decide +kernel
theorem dX11_rough_51 : decode cX11_rough 51 = .ok (.iload_n 3, 1) := by decide +kernel
theorem dX11_rough_52 : decode cX11_rough 52 = .ok (.bipush 80, 2) := by decide +kernel
theorem dX11_rough_54 : decode cX11_rough 54 = .ok (.if_icmp .ge 16, 3) := by decide +kernel
theorem dX11_rough_57 : decode cX11_rough 57 = .ok (.aload_n 0, 1) := by decide +kernel
theorem dX11_rough_58 : decode cX11_rough 58 = .ok (.getfield 66, 3) := by decide +kernel
theorem dX11_rough_61 : decode cX11_rough 61 = .ok (.iload_n 3, 1) := by decide +kernel
theorem dX11_rough_62 : decode cX11_rough 62 = .ok (.iconst 0, 1) := by decide +kernel
theorem dX11_rough_63 : decode cX11_rough 63 = .ok (.bastore, 1) := by decide +kernel
theorem dX11_rough_64 : decode cX11_rough 64 = .ok (.iinc 3 1, 3) := by decide +kernel
theorem dX11_rough_67 : decode cX11_rough 67 = .ok (.goto (-16), 3) := by decide +kernel
theorem dX11_rough_70 : decode cX11_rough 70 = .ok (.return_, 1) := by decide +kernel
set_option maxHeartbeats 400000 in
set_option maxRecDepth 20000 in
theorem ct_rough {l : Launch} {E : Ev} {P : Value → AH → Prop} {o : Nat} {ad : Nat → Nat} {F : Nat → Int32} {A : Nat → Nat → Int32} {h : AH} (I : mI o ad) {w g : Int32} (k1 : (w < 1 ∨ 10 < w) ∨ (g < 1 ∨ 8 < g) → P .null (mh E o ad (upd (upd F 0 0) 0 1) A h)) (k2 : ¬ ((w < 1 ∨ 10 < w) ∨ (g < 1 ∨ 8 < g)) → P .null (mh E o ad (upd (upd (upd F 0 0) 26 w) 27 g) (fz A 80) h)) : Mt l E yX11_rough cX11_rough 4 none 7 112 0 0 [.ref o, .int w, .int g] (mh E o ad F A h) P := by
  refine Mt.of (by decide) (Nat.le_of_ble_eq_true rfl) ?_
  intro K hK hR C
  refine g_aload_n (n := 1) C dX11_rough_0 rfl rfl ?_
  refine g_iconst (n := 2) (v := 0) C dX11_rough_1 rfl (by decide) ?_
  refine m_put (n := 5) 0 C dX11_rough_2 rfl (by decide) w_1100 rfl rfl rfl mfs_0 ?_
  refine g_aload_n (n := 6) C dX11_rough_5 rfl rfl ?_
  refine g_iload_n (n := 7) C dX11_rough_6 rfl rfl ?_
  refine g_iconst (n := 8) (v := 1) C dX11_rough_7 rfl (by decide) ?_
  refine g_bipush (n := 10) (v := 10) C dX11_rough_8 rfl (by decide) ?_
  refine g_callS (n := 13) (As := [.int _, .int _, .int _]) C dX11_rough_10 rfl mw_X11_in w_1273 rfl rfl (room hR rfl) (ct_in (fun za10 zb10 => ?_) (fun za10 => ?_) (fun za10 zb10 => ?_))
  · --k10.0
    refine g_if_eq (n := 16) (t := 26) C dX11_rough_13 rfl (by decide) (fun zc13 => ?_) (fun zc13 => ?_)
    · exact absurd zc13 (by decide)
    refine g_iload_n (n := 17) C dX11_rough_16 rfl rfl ?_
    refine g_iconst (n := 18) (v := 1) C dX11_rough_17 rfl (by decide) ?_
    refine g_bipush (n := 20) (v := 8) C dX11_rough_18 rfl (by decide) ?_
    refine g_callS (n := 23) (As := [.int _, .int _, .int _]) C dX11_rough_20 rfl mw_X11_in w_1273 rfl rfl (room hR rfl) (ct_in (fun za20 zb20 => ?_) (fun za20 => ?_) (fun za20 zb20 => ?_))
    · --k20.0
      refine g_if_ne (n := 26) (t := 30) C dX11_rough_23 rfl (by decide) (fun zc23 => ?_) (fun zc23 => ?_)
      rotate_left
      · exact absurd zc23 (by decide)
      refine g_iconst (n := 31) (v := 0) C dX11_rough_30 rfl (by decide) ?_
      refine g_iconst (n := 32) (v := 1) C dX11_rough_31 rfl (by decide) ?_
      refine g_callV (n := 35) (As := [.int _, .int _]) C dX11_rough_32 rfl mw_X11_throwsIf w_1257 (g_recv C mh_o rfl) rfl rfl (room hR rfl) (ct_throwsIf0 ?_)
      refine g_if_eq (n := 38) (t := 39) C dX11_rough_35 rfl (by decide) (fun zc35 => ?_) (fun zc35 => ?_)
      rotate_left
      · exact absurd zc35 (by decide)
      refine g_aload_n (n := 40) C dX11_rough_39 rfl rfl ?_
      refine g_iload_n (n := 41) C dX11_rough_40 rfl rfl ?_
      refine m_put (n := 44) 26 C dX11_rough_41 rfl (by decide) w_1126 rfl rfl rfl mfs_26 ?_
      refine g_aload_n (n := 45) C dX11_rough_44 rfl rfl ?_
      refine g_iload_n (n := 46) C dX11_rough_45 rfl rfl ?_
      refine m_put (n := 49) 27 C dX11_rough_46 rfl (by decide) w_1127 rfl rfl rfl mfs_27 ?_
      refine g_iconst (n := 50) (v := 0) C dX11_rough_49 rfl (by decide) ?_
      refine g_istore_n (n := 51) C dX11_rough_50 rfl (by decide) ?_
      have lp : ∀ p : Nat, p ≤ 80 → ∀ (x : Int32) (B : Nat → Nat → Int32), x = nI p → B = fz A p → G K E 4 (QM K E none 0 0 P) 0 0 51 [(0, .ref o), (1, .int w), (2, .int g), (3, .int x)] [] (mh E o ad (upd (upd (upd F 0 0) 26 w) 27 g) B h) := by
        refine loopN (fun p => ∀ (x : Int32) (B : Nat → Nat → Int32), x = nI p → B = fz A p → G K E 4 (QM K E none 0 0 P) 0 0 51 [(0, .ref o), (1, .int w), (2, .int g), (3, .int x)] [] (mh E o ad (upd (upd (upd F 0 0) 26 w) 27 g) B h)) (80) ?_
        intro p hlep ihp x B ex eB
        subst ex
        refine g_iload_n (n := 52) C dX11_rough_51 rfl rfl ?_
        refine g_bipush (n := 54) (v := 80) C dX11_rough_52 rfl (by decide) ?_
        refine g_icmp_ge (n := 57) (t := 70) C dX11_rough_54 rfl (by decide) (fun zc54 => ?_) (fun zc54 => ?_)
        · --t54
          refine g_vret C dX11_rough_70 (by decide) (by decide) ?_
          have ep : p = 80 := i_eq (n := 80) rfl zc54 hlep (by decide)
          subst ep
          rw [eB]
          exact k2 (n_or (n_or (by assumption) (by assumption)) (n_or (by assumption) (by assumption)))
        · --f54
          refine g_aload_n (n := 58) C dX11_rough_57 rfl rfl ?_
          refine m_get (n := 61) 28 C dX11_rough_58 rfl (by decide) rfl w_1128 rfl ?_
          refine g_iload_n (n := 62) C dX11_rough_61 rfl rfl ?_
          refine g_iconst (n := 63) (v := 0) C dX11_rough_62 rfl (by decide) ?_
          refine m_zast (n := 64) 28 (p) C dX11_rough_63 rfl I (by decide) (fun _ => rfl) rfl (i_lt (n := 80) rfl zc54 hlep (by decide)) (by decide) (by rfl) ?_
          refine g_iinc (n := 67) C dX11_rough_64 rfl rfl rfl (by decide) ?_
          refine g_goto (t := 51) C dX11_rough_67 (by decide) ?_
          exact g_lv [0, 1, 2, 3] rfl (ihp (i_lt (n := 80) rfl zc54 hlep (by decide)) _ _ (nI_1 p) (by rw [eB]; exact fz_s A p))
      exact g_lv [0, 1, 2, 3] rfl (lp 0 (Nat.zero_le _) _ _ rfl (fz_0 A).symm)
    · --k20.1
      refine g_if_ne (n := 26) (t := 30) C dX11_rough_23 rfl (by decide) (fun zc23 => ?_) (fun zc23 => ?_)
      · exact absurd zc23 (by decide)
      refine g_iconst (n := 27) (v := 1) C dX11_rough_26 rfl (by decide) ?_
      refine g_goto (t := 31) C dX11_rough_27 (by decide) ?_
      refine g_iconst (n := 32) (v := 1) C dX11_rough_31 rfl (by decide) ?_
      refine g_callV (n := 35) (As := [.int _, .int _]) C dX11_rough_32 rfl mw_X11_throwsIf w_1257 (g_recv C mh_o rfl) rfl rfl (room hR rfl) (ct_throwsIf1 ?_)
      refine g_if_eq (n := 38) (t := 39) C dX11_rough_35 rfl (by decide) (fun zc35 => ?_) (fun zc35 => ?_)
      · exact absurd zc35 (by decide)
      refine g_vret C dX11_rough_38 (by decide) (by decide) ?_
      first | exact k1 (Or.inl (Or.inl (by assumption))) | exact k1 (Or.inl (Or.inr (by assumption))) | exact k1 (Or.inr (Or.inl (by assumption))) | exact k1 (Or.inr (Or.inr (by assumption)))
    · --k20.2
      refine g_if_ne (n := 26) (t := 30) C dX11_rough_23 rfl (by decide) (fun zc23 => ?_) (fun zc23 => ?_)
      · exact absurd zc23 (by decide)
      refine g_iconst (n := 27) (v := 1) C dX11_rough_26 rfl (by decide) ?_
      refine g_goto (t := 31) C dX11_rough_27 (by decide) ?_
      refine g_iconst (n := 32) (v := 1) C dX11_rough_31 rfl (by decide) ?_
      refine g_callV (n := 35) (As := [.int _, .int _]) C dX11_rough_32 rfl mw_X11_throwsIf w_1257 (g_recv C mh_o rfl) rfl rfl (room hR rfl) (ct_throwsIf1 ?_)
      refine g_if_eq (n := 38) (t := 39) C dX11_rough_35 rfl (by decide) (fun zc35 => ?_) (fun zc35 => ?_)
      · exact absurd zc35 (by decide)
      refine g_vret C dX11_rough_38 (by decide) (by decide) ?_
      first | exact k1 (Or.inl (Or.inl (by assumption))) | exact k1 (Or.inl (Or.inr (by assumption))) | exact k1 (Or.inr (Or.inl (by assumption))) | exact k1 (Or.inr (Or.inr (by assumption)))
  · --k10.1
    refine g_if_eq (n := 16) (t := 26) C dX11_rough_13 rfl (by decide) (fun zc13 => ?_) (fun zc13 => ?_)
    rotate_left
    · exact absurd zc13 (by decide)
    refine g_iconst (n := 27) (v := 1) C dX11_rough_26 rfl (by decide) ?_
    refine g_goto (t := 31) C dX11_rough_27 (by decide) ?_
    refine g_iconst (n := 32) (v := 1) C dX11_rough_31 rfl (by decide) ?_
    refine g_callV (n := 35) (As := [.int _, .int _]) C dX11_rough_32 rfl mw_X11_throwsIf w_1257 (g_recv C mh_o rfl) rfl rfl (room hR rfl) (ct_throwsIf1 ?_)
    refine g_if_eq (n := 38) (t := 39) C dX11_rough_35 rfl (by decide) (fun zc35 => ?_) (fun zc35 => ?_)
    · exact absurd zc35 (by decide)
    refine g_vret C dX11_rough_38 (by decide) (by decide) ?_
    first | exact k1 (Or.inl (Or.inl (by assumption))) | exact k1 (Or.inl (Or.inr (by assumption))) | exact k1 (Or.inr (Or.inl (by assumption))) | exact k1 (Or.inr (Or.inr (by assumption)))
  · --k10.2
    refine g_if_eq (n := 16) (t := 26) C dX11_rough_13 rfl (by decide) (fun zc13 => ?_) (fun zc13 => ?_)
    rotate_left
    · exact absurd zc13 (by decide)
    refine g_iconst (n := 27) (v := 1) C dX11_rough_26 rfl (by decide) ?_
    refine g_goto (t := 31) C dX11_rough_27 (by decide) ?_
    refine g_iconst (n := 32) (v := 1) C dX11_rough_31 rfl (by decide) ?_
    refine g_callV (n := 35) (As := [.int _, .int _]) C dX11_rough_32 rfl mw_X11_throwsIf w_1257 (g_recv C mh_o rfl) rfl rfl (room hR rfl) (ct_throwsIf1 ?_)
    refine g_if_eq (n := 38) (t := 39) C dX11_rough_35 rfl (by decide) (fun zc35 => ?_) (fun zc35 => ?_)
    · exact absurd zc35 (by decide)
    refine g_vret C dX11_rough_38 (by decide) (by decide) ?_
    first | exact k1 (Or.inl (Or.inl (by assumption))) | exact k1 (Or.inl (Or.inr (by assumption))) | exact k1 (Or.inr (Or.inl (by assumption))) | exact k1 (Or.inr (Or.inr (by assumption)))
theorem dX11_flaw_0 : decode cX11_flaw 0 = .ok (.aload_n 0, 1) := by decide +kernel
theorem dX11_flaw_1 : decode cX11_flaw 1 = .ok (.iconst 0, 1) := by decide +kernel
theorem dX11_flaw_2 : decode cX11_flaw 2 = .ok (.putfield 76, 3) := by decide +kernel
theorem dX11_flaw_5 : decode cX11_flaw 5 = .ok (.aload_n 0, 1) := by decide +kernel
theorem dX11_flaw_6 : decode cX11_flaw 6 = .ok (.iload_n 1, 1) := by decide +kernel
theorem dX11_flaw_7 : decode cX11_flaw 7 = .ok (.iconst 0, 1) := by decide +kernel
theorem dX11_flaw_8 : decode cX11_flaw 8 = .ok (.aload_n 0, 1) := by decide +kernel
theorem dX11_flaw_9 : decode cX11_flaw 9 = .ok (.getfield 60, 3) := by decide +kernel
theorem dX11_flaw_12 : decode cX11_flaw 12 = .ok (.iconst 1, 1) := by decide +kernel
theorem dX11_flaw_13 : decode cX11_flaw 13 = .ok (.isub, 1) := by decide +kernel
theorem dX11_flaw_14 : decode cX11_flaw 14 = .ok (.invokestatic 79, 3) := by decide +kernel
theorem dX11_flaw_17 : decode cX11_flaw 17 = .ok (.ifCond .eq 17, 3) := by decide +kernel
theorem dX11_flaw_20 : decode cX11_flaw 20 = .ok (.iload_n 2, 1) := by decide +kernel
theorem dX11_flaw_21 : decode cX11_flaw 21 = .ok (.iconst 0, 1) := by decide +kernel
theorem dX11_flaw_22 : decode cX11_flaw 22 = .ok (.aload_n 0, 1) := by decide +kernel
theorem dX11_flaw_23 : decode cX11_flaw 23 = .ok (.getfield 63, 3) := by decide +kernel
theorem dX11_flaw_26 : decode cX11_flaw 26 = .ok (.iconst 1, 1) := by decide +kernel
theorem dX11_flaw_27 : decode cX11_flaw 27 = .ok (.isub, 1) := by decide +kernel
theorem dX11_flaw_28 : decode cX11_flaw 28 = .ok (.invokestatic 79, 3) := by decide +kernel
theorem dX11_flaw_31 : decode cX11_flaw 31 = .ok (.ifCond .ne 7, 3) := by decide +kernel
theorem dX11_flaw_34 : decode cX11_flaw 34 = .ok (.iconst 1, 1) := by decide +kernel
theorem dX11_flaw_35 : decode cX11_flaw 35 = .ok (.goto 4, 3) := by decide +kernel
theorem dX11_flaw_38 : decode cX11_flaw 38 = .ok (.iconst 0, 1) := by decide +kernel
theorem dX11_flaw_39 : decode cX11_flaw 39 = .ok (.iconst 1, 1) := by decide +kernel
theorem dX11_flaw_40 : decode cX11_flaw 40 = .ok (.invokevirtual 162, 3) := by decide +kernel
theorem dX11_flaw_43 : decode cX11_flaw 43 = .ok (.ifCond .eq 5, 3) := by decide +kernel
theorem dX11_flaw_46 : decode cX11_flaw 46 = .ok (.iconst 0, 1) := by decide +kernel
theorem dX11_flaw_47 : decode cX11_flaw 47 = .ok (.ireturn, 1) := by decide +kernel
theorem dX11_flaw_48 : decode cX11_flaw 48 = .ok (.aload_n 0, 1) := by decide +kernel
theorem dX11_flaw_49 : decode cX11_flaw 49 = .ok (.getfield 66, 3) := by decide +kernel
theorem dX11_flaw_52 : decode cX11_flaw 52 = .ok (.bipush 10, 2) := by decide +kernel
theorem dX11_flaw_54 : decode cX11_flaw 54 = .ok (.iload_n 2, 1) := by decide +kernel
theorem dX11_flaw_55 : decode cX11_flaw 55 = .ok (.imul, 1) := by decide +kernel
theorem dX11_flaw_56 : decode cX11_flaw 56 = .ok (.iload_n 1, 1) := by decide +kernel
theorem dX11_flaw_57 : decode cX11_flaw 57 = .ok (.iadd, 1) := by decide +kernel
theorem dX11_flaw_58 : decode cX11_flaw 58 = .ok (.baload, 1) := by decide +kernel
theorem dX11_flaw_59 : decode cX11_flaw 59 = .ok (.istore 4, 2) := by decide +kernel
theorem dX11_flaw_61 : decode cX11_flaw 61 = .ok (.aload_n 0, 1) := by decide +kernel
theorem dX11_flaw_62 : decode cX11_flaw 62 = .ok (.getfield 66, 3) := by decide +kernel
theorem dX11_flaw_65 : decode cX11_flaw 65 = .ok (.bipush 10, 2) := by decide +kernel
theorem dX11_flaw_67 : decode cX11_flaw 67 = .ok (.iload_n 2, 1) := by decide +kernel
theorem dX11_flaw_68 : decode cX11_flaw 68 = .ok (.imul, 1) := by decide +kernel
theorem dX11_flaw_69 : decode cX11_flaw 69 = .ok (.iload_n 1, 1) := by decide +kernel
theorem dX11_flaw_70 : decode cX11_flaw 70 = .ok (.iadd, 1) := by decide +kernel
theorem dX11_flaw_71 : decode cX11_flaw 71 = .ok (.iload_n 3, 1) := by decide +kernel
theorem dX11_flaw_72 : decode cX11_flaw 72 = .ok (.bastore, 1) := by decide +kernel
theorem dX11_flaw_73 : decode cX11_flaw 73 = .ok (.iload 4, 2) := by decide +kernel
theorem dX11_flaw_75 : decode cX11_flaw 75 = .ok (.iload_n 3, 1) := by decide +kernel
theorem dX11_flaw_76 : decode cX11_flaw 76 = .ok (.if_icmp .eq 7, 3) := by decide +kernel
theorem dX11_flaw_79 : decode cX11_flaw 79 = .ok (.iconst 1, 1) := by decide +kernel
theorem dX11_flaw_80 : decode cX11_flaw 80 = .ok (.goto 4, 3) := by decide +kernel
theorem dX11_flaw_83 : decode cX11_flaw 83 = .ok (.iconst 0, 1) := by decide +kernel
theorem dX11_flaw_84 : decode cX11_flaw 84 = .ok (.ireturn, 1) := by decide +kernel
set_option maxHeartbeats 400000 in
set_option maxRecDepth 20000 in
theorem ct_flaw {l : Launch} {E : Ev} {P : Value → AH → Prop} {o : Nat} {ad : Nat → Nat} {F : Nat → Int32} {A : Nat → Nat → Int32} {h : AH} (I : mI o ad) {W H : Nat} (hw : F 26 = nI W) (hh : F 27 = nI H) (hW : W ≤ 10) (hH : H ≤ 8) {x y z : Int32} (hz : z = 0 ∨ z = 1) (k1 : (x < 0 ∨ F 26 - 1 < x) ∨ (y < 0 ∨ F 27 - 1 < y) → P (.int 0) (mh E o ad (upd (upd F 0 0) 0 1) A h)) (k2 : ∀ i j, i < W → j < H → x = nI i → y = nI j → A 28 (10 * j + i) = z → P (.int 0) (mh E o ad (upd F 0 0) (aset A 28 (10 * j + i) z) h)) (k3 : ∀ i j, i < W → j < H → x = nI i → y = nI j → ¬ A 28 (10 * j + i) = z → P (.int 1) (mh E o ad (upd F 0 0) (aset A 28 (10 * j + i) z) h)) : Mt l E yX11_flaw cX11_flaw 5 (some .boolean) 7 113 0 0 [.ref o, .int x, .int y, .int z] (mh E o ad F A h) P := by
  refine Mt.of (by decide) (Nat.le_of_ble_eq_true rfl) ?_
  intro K hK hR C
  refine g_aload_n (n := 1) C dX11_flaw_0 rfl rfl ?_
  refine g_iconst (n := 2) (v := 0) C dX11_flaw_1 rfl (by decide) ?_
  refine m_put (n := 5) 0 C dX11_flaw_2 rfl (by decide) w_1100 rfl rfl rfl mfs_0 ?_
  refine g_aload_n (n := 6) C dX11_flaw_5 rfl rfl ?_
  refine g_iload_n (n := 7) C dX11_flaw_6 rfl rfl ?_
  refine g_iconst (n := 8) (v := 0) C dX11_flaw_7 rfl (by decide) ?_
  refine g_aload_n (n := 9) C dX11_flaw_8 rfl rfl ?_
  refine m_get (n := 12) 26 C dX11_flaw_9 rfl (by decide) rfl w_1126 rfl ?_
  refine g_iconst (n := 13) (v := 1) C dX11_flaw_12 rfl (by decide) ?_
  refine g_isub (n := 14) C dX11_flaw_13 rfl ?_
  refine g_callS (n := 17) (As := [.int _, .int _, .int _]) C dX11_flaw_14 rfl mw_X11_in w_1273 rfl rfl (room hR rfl) (ct_in (fun za14 zb14 => ?_) (fun za14 => ?_) (fun za14 zb14 => ?_))
  · --k14.0
    refine g_if_eq (n := 20) (t := 34) C dX11_flaw_17 rfl (by decide) (fun zc17 => ?_) (fun zc17 => ?_)
    · exact absurd zc17 (by decide)
    refine g_iload_n (n := 21) C dX11_flaw_20 rfl rfl ?_
    refine g_iconst (n := 22) (v := 0) C dX11_flaw_21 rfl (by decide) ?_
    refine g_aload_n (n := 23) C dX11_flaw_22 rfl rfl ?_
    refine m_get (n := 26) 27 C dX11_flaw_23 rfl (by decide) rfl w_1127 rfl ?_
    refine g_iconst (n := 27) (v := 1) C dX11_flaw_26 rfl (by decide) ?_
    refine g_isub (n := 28) C dX11_flaw_27 rfl ?_
    refine g_callS (n := 31) (As := [.int _, .int _, .int _]) C dX11_flaw_28 rfl mw_X11_in w_1273 rfl rfl (room hR rfl) (ct_in (fun za28 zb28 => ?_) (fun za28 => ?_) (fun za28 zb28 => ?_))
    · --k28.0
      refine g_if_ne (n := 34) (t := 38) C dX11_flaw_31 rfl (by decide) (fun zc31 => ?_) (fun zc31 => ?_)
      rotate_left
      · exact absurd zc31 (by decide)
      refine g_iconst (n := 39) (v := 0) C dX11_flaw_38 rfl (by decide) ?_
      refine g_iconst (n := 40) (v := 1) C dX11_flaw_39 rfl (by decide) ?_
      refine g_callV (n := 43) (As := [.int _, .int _]) C dX11_flaw_40 rfl mw_X11_throwsIf w_1257 (g_recv C mh_o rfl) rfl rfl (room hR rfl) (ct_throwsIf0 ?_)
      refine g_if_eq (n := 46) (t := 48) C dX11_flaw_43 rfl (by decide) (fun zc43 => ?_) (fun zc43 => ?_)
      rotate_left
      · exact absurd zc43 (by decide)
      obtain ⟨i, hi, rfl⟩ := ix_of za14 zb14 (show upd F 0 0 26 = nI W from hw) (by omega)
      obtain ⟨j, hj, rfl⟩ := ix_of za28 zb28 (show upd F 0 0 27 = nI H from hh) (by omega)
      refine g_aload_n (n := 49) C dX11_flaw_48 rfl rfl ?_
      refine m_get (n := 52) 28 C dX11_flaw_49 rfl (by decide) rfl w_1128 rfl ?_
      refine g_bipush (n := 54) (v := 10) C dX11_flaw_52 rfl (by decide) ?_
      refine g_iload_n (n := 55) C dX11_flaw_54 rfl rfl ?_
      refine g_imul (n := 56) C dX11_flaw_55 rfl ?_
      refine g_iload_n (n := 57) C dX11_flaw_56 rfl rfl ?_
      refine g_iadd (n := 58) C dX11_flaw_57 rfl ?_
      refine m_zald (n := 59) 28 (10 * j + i) C dX11_flaw_58 rfl I (by decide) rfl (ix10 rfl i) (by omega) (by decide) rfl ?_
      refine g_istore (n := 61) C dX11_flaw_59 rfl (by decide) ?_
      refine g_aload_n (n := 62) C dX11_flaw_61 rfl rfl ?_
      refine m_get (n := 65) 28 C dX11_flaw_62 rfl (by decide) rfl w_1128 rfl ?_
      refine g_bipush (n := 67) (v := 10) C dX11_flaw_65 rfl (by decide) ?_
      refine g_iload_n (n := 68) C dX11_flaw_67 rfl rfl ?_
      refine g_imul (n := 69) C dX11_flaw_68 rfl ?_
      refine g_iload_n (n := 70) C dX11_flaw_69 rfl rfl ?_
      refine g_iadd (n := 71) C dX11_flaw_70 rfl ?_
      refine g_iload_n (n := 72) C dX11_flaw_71 rfl rfl ?_
      refine m_zast (n := 73) 28 (10 * j + i) C dX11_flaw_72 rfl I (by decide) (fun _ => rfl) (ix10 rfl i) (by omega) (by decide) (by rcases hz with rfl | rfl <;> rfl) ?_
      refine g_iload (n := 75) C dX11_flaw_73 rfl rfl ?_
      refine g_iload_n (n := 76) C dX11_flaw_75 rfl rfl ?_
      refine g_icmp_eq (n := 79) (t := 83) C dX11_flaw_76 rfl (by decide) (fun zc76 => ?_) (fun zc76 => ?_)
      · --t76
        refine g_iconst (n := 84) (v := 0) C dX11_flaw_83 rfl (by decide) ?_
        refine g_zret C dX11_flaw_84 (by decide) (by decide) (by rfl) ?_
        first | exact k1 (Or.inl (Or.inl (by assumption))) | exact k1 (Or.inl (Or.inr (by assumption))) | exact k1 (Or.inr (Or.inl (by assumption))) | exact k1 (Or.inr (Or.inr (by assumption))) | exact k2 i j hi hj rfl rfl (by assumption) | exact k3 i j hi hj rfl rfl (by assumption)
      · --f76
        refine g_iconst (n := 80) (v := 1) C dX11_flaw_79 rfl (by decide) ?_
        refine g_goto (t := 84) C dX11_flaw_80 (by decide) ?_
        refine g_zret C dX11_flaw_84 (by decide) (by decide) (by rfl) ?_
        first | exact k1 (Or.inl (Or.inl (by assumption))) | exact k1 (Or.inl (Or.inr (by assumption))) | exact k1 (Or.inr (Or.inl (by assumption))) | exact k1 (Or.inr (Or.inr (by assumption))) | exact k2 i j hi hj rfl rfl (by assumption) | exact k3 i j hi hj rfl rfl (by assumption)
    · --k28.1
      refine g_if_ne (n := 34) (t := 38) C dX11_flaw_31 rfl (by decide) (fun zc31 => ?_) (fun zc31 => ?_)
      · exact absurd zc31 (by decide)
      refine g_iconst (n := 35) (v := 1) C dX11_flaw_34 rfl (by decide) ?_
      refine g_goto (t := 39) C dX11_flaw_35 (by decide) ?_
      refine g_iconst (n := 40) (v := 1) C dX11_flaw_39 rfl (by decide) ?_
      refine g_callV (n := 43) (As := [.int _, .int _]) C dX11_flaw_40 rfl mw_X11_throwsIf w_1257 (g_recv C mh_o rfl) rfl rfl (room hR rfl) (ct_throwsIf1 ?_)
      refine g_if_eq (n := 46) (t := 48) C dX11_flaw_43 rfl (by decide) (fun zc43 => ?_) (fun zc43 => ?_)
      · exact absurd zc43 (by decide)
      refine g_iconst (n := 47) (v := 0) C dX11_flaw_46 rfl (by decide) ?_
      refine g_zret C dX11_flaw_47 (by decide) (by decide) (by rfl) ?_
      first | exact k1 (Or.inl (Or.inl (by assumption))) | exact k1 (Or.inl (Or.inr (by assumption))) | exact k1 (Or.inr (Or.inl (by assumption))) | exact k1 (Or.inr (Or.inr (by assumption))) | exact k2 i j hi hj rfl rfl (by assumption) | exact k3 i j hi hj rfl rfl (by assumption)
    · --k28.2
      refine g_if_ne (n := 34) (t := 38) C dX11_flaw_31 rfl (by decide) (fun zc31 => ?_) (fun zc31 => ?_)
      · exact absurd zc31 (by decide)
      refine g_iconst (n := 35) (v := 1) C dX11_flaw_34 rfl (by decide) ?_
      refine g_goto (t := 39) C dX11_flaw_35 (by decide) ?_
      refine g_iconst (n := 40) (v := 1) C dX11_flaw_39 rfl (by decide) ?_
      refine g_callV (n := 43) (As := [.int _, .int _]) C dX11_flaw_40 rfl mw_X11_throwsIf w_1257 (g_recv C mh_o rfl) rfl rfl (room hR rfl) (ct_throwsIf1 ?_)
      refine g_if_eq (n := 46) (t := 48) C dX11_flaw_43 rfl (by decide) (fun zc43 => ?_) (fun zc43 => ?_)
      · exact absurd zc43 (by decide)
      refine g_iconst (n := 47) (v := 0) C dX11_flaw_46 rfl (by decide) ?_
      refine g_zret C dX11_flaw_47 (by decide) (by decide) (by rfl) ?_
      first | exact k1 (Or.inl (Or.inl (by assumption))) | exact k1 (Or.inl (Or.inr (by assumption))) | exact k1 (Or.inr (Or.inl (by assumption))) | exact k1 (Or.inr (Or.inr (by assumption))) | exact k2 i j hi hj rfl rfl (by assumption) | exact k3 i j hi hj rfl rfl (by assumption)
  · --k14.1
    refine g_if_eq (n := 20) (t := 34) C dX11_flaw_17 rfl (by decide) (fun zc17 => ?_) (fun zc17 => ?_)
    rotate_left
    · exact absurd zc17 (by decide)
    refine g_iconst (n := 35) (v := 1) C dX11_flaw_34 rfl (by decide) ?_
    refine g_goto (t := 39) C dX11_flaw_35 (by decide) ?_
    refine g_iconst (n := 40) (v := 1) C dX11_flaw_39 rfl (by decide) ?_
    refine g_callV (n := 43) (As := [.int _, .int _]) C dX11_flaw_40 rfl mw_X11_throwsIf w_1257 (g_recv C mh_o rfl) rfl rfl (room hR rfl) (ct_throwsIf1 ?_)
    refine g_if_eq (n := 46) (t := 48) C dX11_flaw_43 rfl (by decide) (fun zc43 => ?_) (fun zc43 => ?_)
    · exact absurd zc43 (by decide)
    refine g_iconst (n := 47) (v := 0) C dX11_flaw_46 rfl (by decide) ?_
    refine g_zret C dX11_flaw_47 (by decide) (by decide) (by rfl) ?_
    first | exact k1 (Or.inl (Or.inl (by assumption))) | exact k1 (Or.inl (Or.inr (by assumption))) | exact k1 (Or.inr (Or.inl (by assumption))) | exact k1 (Or.inr (Or.inr (by assumption))) | exact k2 i j hi hj rfl rfl (by assumption) | exact k3 i j hi hj rfl rfl (by assumption)
  · --k14.2
    refine g_if_eq (n := 20) (t := 34) C dX11_flaw_17 rfl (by decide) (fun zc17 => ?_) (fun zc17 => ?_)
    rotate_left
    · exact absurd zc17 (by decide)
    refine g_iconst (n := 35) (v := 1) C dX11_flaw_34 rfl (by decide) ?_
    refine g_goto (t := 39) C dX11_flaw_35 (by decide) ?_
    refine g_iconst (n := 40) (v := 1) C dX11_flaw_39 rfl (by decide) ?_
    refine g_callV (n := 43) (As := [.int _, .int _]) C dX11_flaw_40 rfl mw_X11_throwsIf w_1257 (g_recv C mh_o rfl) rfl rfl (room hR rfl) (ct_throwsIf1 ?_)
    refine g_if_eq (n := 46) (t := 48) C dX11_flaw_43 rfl (by decide) (fun zc43 => ?_) (fun zc43 => ?_)
    · exact absurd zc43 (by decide)
    refine g_iconst (n := 47) (v := 0) C dX11_flaw_46 rfl (by decide) ?_
    refine g_zret C dX11_flaw_47 (by decide) (by decide) (by rfl) ?_
    first | exact k1 (Or.inl (Or.inl (by assumption))) | exact k1 (Or.inl (Or.inr (by assumption))) | exact k1 (Or.inr (Or.inl (by assumption))) | exact k1 (Or.inr (Or.inr (by assumption))) | exact k2 i j hi hj rfl rfl (by assumption) | exact k3 i j hi hj rfl rfl (by assumption)
theorem dX11_placeOf_0 : decode cX11_placeOf 0 = .ok (.bipush 8, 2) := by decide +kernel
theorem dX11_placeOf_2 : decode cX11_placeOf 2 = .ok (.iload_n 3, 1) := by decide +kernel
theorem dX11_placeOf_3 : decode cX11_placeOf 3 = .ok (.imul, 1) := by decide +kernel
theorem dX11_placeOf_4 : decode cX11_placeOf 4 = .ok (.iload_n 1, 1) := by decide +kernel
theorem dX11_placeOf_5 : decode cX11_placeOf 5 = .ok (.iadd, 1) := by decide +kernel
theorem dX11_placeOf_6 : decode cX11_placeOf 6 = .ok (.bipush 10, 2) := by decide +kernel
theorem dX11_placeOf_8 : decode cX11_placeOf 8 = .ok (.imul, 1) := by decide +kernel
theorem dX11_placeOf_9 : decode cX11_placeOf 9 = .ok (.iload_n 2, 1) := by decide +kernel
theorem dX11_placeOf_10 : decode cX11_placeOf 10 = .ok (.iadd, 1) := by decide +kernel
theorem dX11_placeOf_11 : decode cX11_placeOf 11 = .ok (.bipush 10, 2) := by decide +kernel
theorem dX11_placeOf_13 : decode cX11_placeOf 13 = .ok (.imul, 1) := by decide +kernel
theorem dX11_placeOf_14 : decode cX11_placeOf 14 = .ok (.iload_n 0, 1) := by decide +kernel
theorem dX11_placeOf_15 : decode cX11_placeOf 15 = .ok (.iadd, 1) := by decide +kernel
theorem dX11_placeOf_16 : decode cX11_placeOf 16 = .ok (.ireturn, 1) := by decide +kernel
set_option maxHeartbeats 400000 in
set_option maxRecDepth 20000 in
theorem ct_place {l : Launch} {E : Ev} {P : Value → AH → Prop}  {h : AH} {a b c d : Int32} (hp : P (.int (rplace a b c d)) h) : Mt l E yX11_placeOf cX11_placeOf 4 (some .int) 0 0 0 0 [.int a, .int b, .int c, .int d] (h) P := by
  refine Mt.of (by decide) (Nat.le_of_ble_eq_true rfl) ?_
  intro K hK hR C
  refine g_bipush (n := 2) (v := 8) C dX11_placeOf_0 rfl (by decide) ?_
  refine g_iload_n (n := 3) C dX11_placeOf_2 rfl rfl ?_
  refine g_imul (n := 4) C dX11_placeOf_3 rfl ?_
  refine g_iload_n (n := 5) C dX11_placeOf_4 rfl rfl ?_
  refine g_iadd (n := 6) C dX11_placeOf_5 rfl ?_
  refine g_bipush (n := 8) (v := 10) C dX11_placeOf_6 rfl (by decide) ?_
  refine g_imul (n := 9) C dX11_placeOf_8 rfl ?_
  refine g_iload_n (n := 10) C dX11_placeOf_9 rfl rfl ?_
  refine g_iadd (n := 11) C dX11_placeOf_10 rfl ?_
  refine g_bipush (n := 13) (v := 10) C dX11_placeOf_11 rfl (by decide) ?_
  refine g_imul (n := 14) C dX11_placeOf_13 rfl ?_
  refine g_iload_n (n := 15) C dX11_placeOf_14 rfl rfl ?_
  refine g_iadd (n := 16) C dX11_placeOf_15 rfl ?_
  refine g_iret C dX11_placeOf_16 (by decide) (by decide) ?_
  exact hp
theorem le_of_gt {a h p : Nat} (c : nI a + nI h < nI (a + p)) (hp : p ≤ h + 1) (hb : a + h < 100) : p = h + 1 := by
  rw [nI_add] at c
  rcases Nat.lt_or_ge h p with q | q
  · omega
  · exact absurd c (nI_nlt (by omega) (by omega))
theorem lt_of_ngt {a h p : Nat} (c : ¬ nI a + nI h < nI (a + p)) (hp : p ≤ h + 1) (hb : a + h < 100) : p < h + 1 := by
  rw [nI_add] at c
  rcases Nat.lt_or_ge p (h + 1) with q | q
  · exact q
  · exact absurd (nI_lt (by omega) (by omega)) c
theorem rclr2_n {Z : Nat → Int32} {x y w p : Nat} (h : rclr2 Z x y w p (w + 1)) : rclr2 Z x y w (p + 1) 0 := by
  refine ⟨fun j i hj hi => ?_, fun i hi => absurd hi (Nat.not_lt_zero _)⟩
  rcases Nat.lt_or_ge j p with q | q
  · exact h.1 j i q hi
  · have e : j = p := by omega
    subst e
    exact h.2 i (by omega)
theorem rclr2_s {Z : Nat → Int32} {x y w p q : Nat} (h : rclr2 Z x y w p q) (h2 : Z (10 * (y + p) + (x + q)) = 0) : rclr2 Z x y w p (q + 1) := by
  refine ⟨h.1, fun i hi => ?_⟩
  rcases Nat.lt_or_ge i q with c | c
  · exact h.2 i c
  · have e : i = q := by omega
    subst e
    exact h2
theorem rclr2_end {Z : Nat → Int32} {x y w h : Nat} : rclr2 Z x y w (h + 1) 0 ↔ rclr Z x y w h := ⟨fun k j i hj hi => k.1 j i (by omega) hi, fun k => ⟨fun j i hj hi => k j i (by omega) hi, fun i hi => absurd hi (Nat.not_lt_zero _)⟩⟩
theorem rclr2_nn {Z : Nat → Int32} {x y w p : Nat} (h : rclr2 Z x y w (p + 1) 0) : rclr2 Z x y w p (w + 1) := ⟨fun j i hj hi => h.1 j i (by omega) hi, fun i hi => h.1 p i (by omega) (by omega)⟩
theorem dX11_isClear_0 : decode cX11_isClear 0 = .ok (.iconst 1, 1) := by decide +kernel
theorem dX11_isClear_1 : decode cX11_isClear 1 = .ok (.istore 5, 2) := by decide +kernel
theorem dX11_isClear_3 : decode cX11_isClear 3 = .ok (.iload_n 2, 1) := by decide +kernel
theorem dX11_isClear_4 : decode cX11_isClear 4 = .ok (.istore 6, 2) := by decide +kernel
theorem dX11_isClear_6 : decode cX11_isClear 6 = .ok (.iload 6, 2) := by decide +kernel
theorem dX11_isClear_8 : decode cX11_isClear 8 = .ok (.iload_n 2, 1) := by decide +kernel
theorem dX11_isClear_9 : decode cX11_isClear 9 = .ok (.iload 4, 2) := by decide +kernel
theorem dX11_isClear_11 : decode cX11_isClear 11 = .ok (.iadd, 1) := by decide +kernel
theorem dX11_isClear_12 : decode cX11_isClear 12 = .ok (.if_icmp .gt 54, 3) := by decide +kernel
theorem dX11_isClear_15 : decode cX11_isClear 15 = .ok (.iload_n 1, 1) := by decide +kernel
theorem dX11_isClear_16 : decode cX11_isClear 16 = .ok (.istore 7, 2) := by decide +kernel
theorem dX11_isClear_18 : decode cX11_isClear 18 = .ok (.iload 7, 2) := by decide +kernel
theorem dX11_isClear_20 : decode cX11_isClear 20 = .ok (.iload_n 1, 1) := by decide +kernel
theorem dX11_isClear_21 : decode cX11_isClear 21 = .ok (.iload_n 3, 1) := by decide +kernel
theorem dX11_isClear_22 : decode cX11_isClear 22 = .ok (.iadd, 1) := by decide +kernel
theorem dX11_isClear_23 : decode cX11_isClear 23 = .ok (.if_icmp .gt 37, 3) := by decide +kernel
theorem dX11_isClear_26 : decode cX11_isClear 26 = .ok (.iload 5, 2) := by decide +kernel
theorem dX11_isClear_28 : decode cX11_isClear 28 = .ok (.ifCond .eq 23, 3) := by decide +kernel
theorem dX11_isClear_31 : decode cX11_isClear 31 = .ok (.aload_n 0, 1) := by decide +kernel
theorem dX11_isClear_32 : decode cX11_isClear 32 = .ok (.getfield 66, 3) := by decide +kernel
theorem dX11_isClear_35 : decode cX11_isClear 35 = .ok (.bipush 10, 2) := by decide +kernel
theorem dX11_isClear_37 : decode cX11_isClear 37 = .ok (.iload 6, 2) := by decide +kernel
theorem dX11_isClear_39 : decode cX11_isClear 39 = .ok (.imul, 1) := by decide +kernel
theorem dX11_isClear_40 : decode cX11_isClear 40 = .ok (.iload 7, 2) := by decide +kernel
theorem dX11_isClear_42 : decode cX11_isClear 42 = .ok (.iadd, 1) := by decide +kernel
theorem dX11_isClear_43 : decode cX11_isClear 43 = .ok (.baload, 1) := by decide +kernel
theorem dX11_isClear_44 : decode cX11_isClear 44 = .ok (.ifCond .ne 7, 3) := by decide +kernel
theorem dX11_isClear_47 : decode cX11_isClear 47 = .ok (.iconst 1, 1) := by decide +kernel
theorem dX11_isClear_48 : decode cX11_isClear 48 = .ok (.goto 4, 3) := by decide +kernel
theorem dX11_isClear_51 : decode cX11_isClear 51 = .ok (.iconst 0, 1) := by decide +kernel
theorem dX11_isClear_52 : decode cX11_isClear 52 = .ok (.istore 5, 2) := by decide +kernel
theorem dX11_isClear_54 : decode cX11_isClear 54 = .ok (.iinc 7 1, 3) := by decide +kernel
theorem dX11_isClear_57 : decode cX11_isClear 57 = .ok (.goto (-39), 3) := by decide +kernel
theorem dX11_isClear_60 : decode cX11_isClear 60 = .ok (.iinc 6 1, 3) := by decide +kernel
theorem dX11_isClear_63 : decode cX11_isClear 63 = .ok (.goto (-57), 3) := by decide +kernel
theorem dX11_isClear_66 : decode cX11_isClear 66 = .ok (.iload 5, 2) := by decide +kernel
theorem dX11_isClear_68 : decode cX11_isClear 68 = .ok (.ireturn, 1) := by decide +kernel
set_option maxHeartbeats 1000000 in
set_option maxRecDepth 20000 in
theorem ct_clear {l : Launch} {E : Ev} {P : Value → AH → Prop} {o : Nat} {ad : Nat → Nat} {F : Nat → Int32} {A : Nat → Nat → Int32} {h : AH} (I : mI o ad) {x y w g : Nat} (hx : x + w < 10) (hy : y + g < 8) (k1 : rclr (A 28) x y w g → P (.int 1) (mh E o ad F A h)) (k2 : ¬ rclr (A 28) x y w g → P (.int 0) (mh E o ad F A h)) : Mt l E yX11_isClear cX11_isClear 8 (some .boolean) 0 0 0 0 [.ref o, .int (nI x), .int (nI y), .int (nI w), .int (nI g)] (mh E o ad F A h) P := by
  refine Mt.of (by decide) (Nat.le_of_ble_eq_true rfl) ?_
  intro K hK hR C
  refine g_iconst (n := 1) (v := 1) C dX11_isClear_0 rfl (by decide) ?_
  refine g_istore (n := 3) C dX11_isClear_1 rfl (by decide) ?_
  refine g_iload_n (n := 4) C dX11_isClear_3 rfl rfl ?_
  refine g_istore (n := 6) C dX11_isClear_4 rfl (by decide) ?_
  have lp : ∀ p : Nat, p ≤ g + 1 → ∀ (b t : Int32), ((b = 1 ∧ rclr2 (A 28) x y w p 0) ∨ (b = 0 ∧ ¬ rclr2 (A 28) x y w p 0)) → t = nI (y + p) → G K E 8 (QM K E (some .boolean) 0 0 P) 0 0 6 [(0, .ref o), (1, .int (nI x)), (2, .int (nI y)), (3, .int (nI w)), (4, .int (nI g)), (5, .int b), (6, .int t)] [] (mh E o ad F A h) := by
    refine loopN (fun p => ∀ (b t : Int32), ((b = 1 ∧ rclr2 (A 28) x y w p 0) ∨ (b = 0 ∧ ¬ rclr2 (A 28) x y w p 0)) → t = nI (y + p) → G K E 8 (QM K E (some .boolean) 0 0 P) 0 0 6 [(0, .ref o), (1, .int (nI x)), (2, .int (nI y)), (3, .int (nI w)), (4, .int (nI g)), (5, .int b), (6, .int t)] [] (mh E o ad F A h)) (g + 1) ?_
    intro p hlep ihp b t eb et
    subst et
    refine g_iload (n := 8) C dX11_isClear_6 rfl rfl ?_
    refine g_iload_n (n := 9) C dX11_isClear_8 rfl rfl ?_
    refine g_iload (n := 11) C dX11_isClear_9 rfl rfl ?_
    refine g_iadd (n := 12) C dX11_isClear_11 rfl ?_
    refine g_icmp_gt (n := 15) (t := 66) C dX11_isClear_12 rfl (by decide) (fun zc12 => ?_) (fun zc12 => ?_)
    · --t12
      refine g_iload (n := 68) C dX11_isClear_66 rfl rfl ?_
      refine g_zret C dX11_isClear_68 (by decide) (by decide) (by rcases eb with ⟨e1, e2⟩ | ⟨e1, e2⟩ <;> rw [e1] <;> rfl) ?_
      have ep : p = g + 1 := le_of_gt zc12 hlep (by omega)
      subst ep
      rcases eb with ⟨e1, e2⟩ | ⟨e1, e2⟩
      · rw [e1]; exact k1 (rclr2_end.mp e2)
      · rw [e1]; exact k2 (fun zq => e2 (rclr2_end.mpr zq))
    · --f12
      refine g_iload_n (n := 16) C dX11_isClear_15 rfl rfl ?_
      refine g_istore (n := 18) C dX11_isClear_16 rfl (by decide) ?_
      have lq : ∀ q : Nat, q ≤ w + 1 → ∀ (b t : Int32), ((b = 1 ∧ rclr2 (A 28) x y w p q) ∨ (b = 0 ∧ ¬ rclr2 (A 28) x y w p q)) → t = nI (x + q) → G K E 8 (QM K E (some .boolean) 0 0 P) 0 0 18 [(0, .ref o), (1, .int (nI x)), (2, .int (nI y)), (3, .int (nI w)), (4, .int (nI g)), (5, .int b), (6, .int (nI (y + p))), (7, .int t)] [] (mh E o ad F A h) := by
        refine loopN (fun q => ∀ (b t : Int32), ((b = 1 ∧ rclr2 (A 28) x y w p q) ∨ (b = 0 ∧ ¬ rclr2 (A 28) x y w p q)) → t = nI (x + q) → G K E 8 (QM K E (some .boolean) 0 0 P) 0 0 18 [(0, .ref o), (1, .int (nI x)), (2, .int (nI y)), (3, .int (nI w)), (4, .int (nI g)), (5, .int b), (6, .int (nI (y + p))), (7, .int t)] [] (mh E o ad F A h)) (w + 1) ?_
        intro q hleq ihq b t eb2 et
        subst et
        refine g_iload (n := 20) C dX11_isClear_18 rfl rfl ?_
        refine g_iload_n (n := 21) C dX11_isClear_20 rfl rfl ?_
        refine g_iload_n (n := 22) C dX11_isClear_21 rfl rfl ?_
        refine g_iadd (n := 23) C dX11_isClear_22 rfl ?_
        refine g_icmp_gt (n := 26) (t := 60) C dX11_isClear_23 rfl (by decide) (fun zc23 => ?_) (fun zc23 => ?_)
        · --t23
          refine g_iinc (n := 63) C dX11_isClear_60 rfl rfl rfl (by decide) ?_
          refine g_goto (t := 6) C dX11_isClear_63 (by decide) ?_
          exact g_lv [0, 1, 2, 3, 4, 5, 6] rfl (ihp (lt_of_ngt zc12 hlep (by omega)) _ _ (by have eq9 : q = w + 1 := le_of_gt zc23 hleq (by omega); subst eq9; exact eb2.imp (fun zq => ⟨zq.1, rclr2_n zq.2⟩) (fun zq => ⟨zq.1, fun zr => zq.2 (rclr2_nn zr)⟩)) (nI_1 (y + p)))
        · --f23
          refine g_iload (n := 28) C dX11_isClear_26 rfl rfl ?_
          refine g_if_eq (n := 31) (t := 51) C dX11_isClear_28 rfl (by decide) (fun zc28 => ?_) (fun zc28 => ?_)
          · --t28
            refine g_iconst (n := 52) (v := 0) C dX11_isClear_51 rfl (by decide) ?_
            refine g_istore (n := 54) C dX11_isClear_52 rfl (by decide) ?_
            refine g_iinc (n := 57) C dX11_isClear_54 rfl rfl rfl (by decide) ?_
            refine g_goto (t := 18) C dX11_isClear_57 (by decide) ?_
            exact g_lv [0, 1, 2, 3, 4, 5, 6, 7] rfl (ihq (lt_of_ngt zc23 hleq (by omega)) _ _ (by first | exact eb2.elim (fun zq => absurd (zq.1.symm.trans zc28) (by decide)) (fun zq => Or.inr ⟨rfl, fun zr => zq.2 ⟨zr.1, fun i hi => zr.2 i (by omega)⟩⟩) | exact eb2.elim (fun zq => Or.inl ⟨rfl, rclr2_s zq.2 zc44⟩) (fun zq => absurd zq.1 zc28) | exact Or.inr ⟨rfl, fun zr => zc44 (zr.2 q (by omega))⟩) (nI_1 (x + q)))
          · --f28
            refine g_aload_n (n := 32) C dX11_isClear_31 rfl rfl ?_
            refine m_get (n := 35) 28 C dX11_isClear_32 rfl (by decide) rfl w_1128 rfl ?_
            refine g_bipush (n := 37) (v := 10) C dX11_isClear_35 rfl (by decide) ?_
            refine g_iload (n := 39) C dX11_isClear_37 rfl rfl ?_
            refine g_imul (n := 40) C dX11_isClear_39 rfl ?_
            refine g_iload (n := 42) C dX11_isClear_40 rfl rfl ?_
            refine g_iadd (n := 43) C dX11_isClear_42 rfl ?_
            refine m_zald (n := 44) 28 (10 * (y + p) + (x + q)) C dX11_isClear_43 rfl I (by decide) rfl (ix10 rfl (x + q)) (by have := lt_of_ngt zc12 hlep (by omega); have := lt_of_ngt zc23 hleq (by omega); omega) (by decide) rfl ?_
            refine g_if_ne (n := 47) (t := 51) C dX11_isClear_44 rfl (by decide) (fun zc44 => ?_) (fun zc44 => ?_)
            · --t44
              refine g_iconst (n := 52) (v := 0) C dX11_isClear_51 rfl (by decide) ?_
              refine g_istore (n := 54) C dX11_isClear_52 rfl (by decide) ?_
              refine g_iinc (n := 57) C dX11_isClear_54 rfl rfl rfl (by decide) ?_
              refine g_goto (t := 18) C dX11_isClear_57 (by decide) ?_
              exact g_lv [0, 1, 2, 3, 4, 5, 6, 7] rfl (ihq (lt_of_ngt zc23 hleq (by omega)) _ _ (by first | exact eb2.elim (fun zq => absurd (zq.1.symm.trans zc28) (by decide)) (fun zq => Or.inr ⟨rfl, fun zr => zq.2 ⟨zr.1, fun i hi => zr.2 i (by omega)⟩⟩) | exact eb2.elim (fun zq => Or.inl ⟨rfl, rclr2_s zq.2 zc44⟩) (fun zq => absurd zq.1 zc28) | exact Or.inr ⟨rfl, fun zr => zc44 (zr.2 q (by omega))⟩) (nI_1 (x + q)))
            · --f44
              refine g_iconst (n := 48) (v := 1) C dX11_isClear_47 rfl (by decide) ?_
              refine g_goto (t := 52) C dX11_isClear_48 (by decide) ?_
              refine g_istore (n := 54) C dX11_isClear_52 rfl (by decide) ?_
              refine g_iinc (n := 57) C dX11_isClear_54 rfl rfl rfl (by decide) ?_
              refine g_goto (t := 18) C dX11_isClear_57 (by decide) ?_
              exact g_lv [0, 1, 2, 3, 4, 5, 6, 7] rfl (ihq (lt_of_ngt zc23 hleq (by omega)) _ _ (by first | exact eb2.elim (fun zq => absurd (zq.1.symm.trans zc28) (by decide)) (fun zq => Or.inr ⟨rfl, fun zr => zq.2 ⟨zr.1, fun i hi => zr.2 i (by omega)⟩⟩) | exact eb2.elim (fun zq => Or.inl ⟨rfl, rclr2_s zq.2 zc44⟩) (fun zq => absurd zq.1 zc28) | exact Or.inr ⟨rfl, fun zr => zc44 (zr.2 q (by omega))⟩) (nI_1 (x + q)))
      exact g_lv [0, 1, 2, 3, 4, 5, 6, 7] rfl (lq 0 (Nat.zero_le _) _ _ eb rfl)
  exact g_lv [0, 1, 2, 3, 4, 5, 6] rfl (lp 0 (Nat.zero_le _) _ _ (Or.inl ⟨rfl, fun _ _ hj => absurd hj (Nat.not_lt_zero _), fun _ hi => absurd hi (Nat.not_lt_zero _)⟩) rfl)
def rskp (A : Nat → Nat → Int32) (t a b : Nat) : Prop := A 29 a + A 29 b < A 29 t ∨ (A 29 a + A 29 b = A 29 t ∧ A 30 t ≤ A 30 a + A 30 b + 1)
theorem dX11_better_0 : decode cX11_better 0 = .ok (.aload_n 0, 1) := by decide +kernel
theorem dX11_better_1 : decode cX11_better 1 = .ok (.getfield 70, 3) := by decide +kernel
theorem dX11_better_4 : decode cX11_better 4 = .ok (.iload_n 2, 1) := by decide +kernel
theorem dX11_better_5 : decode cX11_better 5 = .ok (.iaload, 1) := by decide +kernel
theorem dX11_better_6 : decode cX11_better 6 = .ok (.aload_n 0, 1) := by decide +kernel
theorem dX11_better_7 : decode cX11_better 7 = .ok (.getfield 70, 3) := by decide +kernel
theorem dX11_better_10 : decode cX11_better 10 = .ok (.iload_n 3, 1) := by decide +kernel
theorem dX11_better_11 : decode cX11_better 11 = .ok (.iaload, 1) := by decide +kernel
theorem dX11_better_12 : decode cX11_better 12 = .ok (.iadd, 1) := by decide +kernel
theorem dX11_better_13 : decode cX11_better 13 = .ok (.istore 4, 2) := by decide +kernel
theorem dX11_better_15 : decode cX11_better 15 = .ok (.aload_n 0, 1) := by decide +kernel
theorem dX11_better_16 : decode cX11_better 16 = .ok (.getfield 73, 3) := by decide +kernel
theorem dX11_better_19 : decode cX11_better 19 = .ok (.iload_n 2, 1) := by decide +kernel
theorem dX11_better_20 : decode cX11_better 20 = .ok (.iaload, 1) := by decide +kernel
theorem dX11_better_21 : decode cX11_better 21 = .ok (.aload_n 0, 1) := by decide +kernel
theorem dX11_better_22 : decode cX11_better 22 = .ok (.getfield 73, 3) := by decide +kernel
theorem dX11_better_25 : decode cX11_better 25 = .ok (.iload_n 3, 1) := by decide +kernel
theorem dX11_better_26 : decode cX11_better 26 = .ok (.iaload, 1) := by decide +kernel
theorem dX11_better_27 : decode cX11_better 27 = .ok (.iadd, 1) := by decide +kernel
theorem dX11_better_28 : decode cX11_better 28 = .ok (.iconst 1, 1) := by decide +kernel
theorem dX11_better_29 : decode cX11_better 29 = .ok (.iadd, 1) := by decide +kernel
theorem dX11_better_30 : decode cX11_better 30 = .ok (.istore 5, 2) := by decide +kernel
theorem dX11_better_32 : decode cX11_better 32 = .ok (.iload 4, 2) := by decide +kernel
theorem dX11_better_34 : decode cX11_better 34 = .ok (.aload_n 0, 1) := by decide +kernel
theorem dX11_better_35 : decode cX11_better 35 = .ok (.getfield 70, 3) := by decide +kernel
theorem dX11_better_38 : decode cX11_better 38 = .ok (.iload_n 1, 1) := by decide +kernel
theorem dX11_better_39 : decode cX11_better 39 = .ok (.iaload, 1) := by decide +kernel
theorem dX11_better_40 : decode cX11_better 40 = .ok (.if_icmp .lt 25, 3) := by decide +kernel
theorem dX11_better_43 : decode cX11_better 43 = .ok (.iload 4, 2) := by decide +kernel
theorem dX11_better_45 : decode cX11_better 45 = .ok (.aload_n 0, 1) := by decide +kernel
theorem dX11_better_46 : decode cX11_better 46 = .ok (.getfield 70, 3) := by decide +kernel
theorem dX11_better_49 : decode cX11_better 49 = .ok (.iload_n 1, 1) := by decide +kernel
theorem dX11_better_50 : decode cX11_better 50 = .ok (.iaload, 1) := by decide +kernel
theorem dX11_better_51 : decode cX11_better 51 = .ok (.if_icmp .ne 15, 3) := by decide +kernel
theorem dX11_better_54 : decode cX11_better 54 = .ok (.iload 5, 2) := by decide +kernel
theorem dX11_better_56 : decode cX11_better 56 = .ok (.aload_n 0, 1) := by decide +kernel
theorem dX11_better_57 : decode cX11_better 57 = .ok (.getfield 73, 3) := by decide +kernel
theorem dX11_better_60 : decode cX11_better 60 = .ok (.iload_n 1, 1) := by decide +kernel
theorem dX11_better_61 : decode cX11_better 61 = .ok (.iaload, 1) := by decide +kernel
theorem dX11_better_62 : decode cX11_better 62 = .ok (.if_icmp .lt 4, 3) := by decide +kernel
theorem dX11_better_65 : decode cX11_better 65 = .ok (.return_, 1) := by decide +kernel
theorem dX11_better_66 : decode cX11_better 66 = .ok (.aload_n 0, 1) := by decide +kernel
theorem dX11_better_67 : decode cX11_better 67 = .ok (.getfield 70, 3) := by decide +kernel
theorem dX11_better_70 : decode cX11_better 70 = .ok (.iload_n 1, 1) := by decide +kernel
theorem dX11_better_71 : decode cX11_better 71 = .ok (.iload 4, 2) := by decide +kernel
theorem dX11_better_73 : decode cX11_better 73 = .ok (.iastore, 1) := by decide +kernel
theorem dX11_better_74 : decode cX11_better 74 = .ok (.aload_n 0, 1) := by decide +kernel
theorem dX11_better_75 : decode cX11_better 75 = .ok (.getfield 73, 3) := by decide +kernel
theorem dX11_better_78 : decode cX11_better 78 = .ok (.iload_n 1, 1) := by decide +kernel
theorem dX11_better_79 : decode cX11_better 79 = .ok (.iload 5, 2) := by decide +kernel
theorem dX11_better_81 : decode cX11_better 81 = .ok (.iastore, 1) := by decide +kernel
theorem dX11_better_82 : decode cX11_better 82 = .ok (.return_, 1) := by decide +kernel
set_option maxHeartbeats 400000 in
set_option maxRecDepth 20000 in
theorem ct_better {l : Launch} {E : Ev} {P : Value → AH → Prop} {o : Nat} {ad : Nat → Nat} {F : Nat → Int32} {A : Nat → Nat → Int32} {h : AH} (I : mI o ad) {t a b : Nat} (ht : t < 6400) (ha : a < 6400) (hb : b < 6400) (k1 : rskp A t a b → P .null (mh E o ad F A h)) (k2 : ¬ rskp A t a b → P .null (mh E o ad F (aset (aset A 29 t (A 29 a + A 29 b)) 30 t (A 30 a + A 30 b + 1)) h)) : Mt l E yX11_better cX11_better 6 none 0 0 0 0 [.ref o, .int (nI t), .int (nI a), .int (nI b)] (mh E o ad F A h) P := by
  refine Mt.of (by decide) (Nat.le_of_ble_eq_true rfl) ?_
  intro K hK hR C
  refine g_aload_n (n := 1) C dX11_better_0 rfl rfl ?_
  refine m_get (n := 4) 29 C dX11_better_1 rfl (by decide) rfl w_1129 rfl ?_
  refine g_iload_n (n := 5) C dX11_better_4 rfl rfl ?_
  refine m_iald (n := 6) 29 (a) C dX11_better_5 rfl I (by decide) rfl rfl (by omega) (by decide) rfl ?_
  refine g_aload_n (n := 7) C dX11_better_6 rfl rfl ?_
  refine m_get (n := 10) 29 C dX11_better_7 rfl (by decide) rfl w_1129 rfl ?_
  refine g_iload_n (n := 11) C dX11_better_10 rfl rfl ?_
  refine m_iald (n := 12) 29 (b) C dX11_better_11 rfl I (by decide) rfl rfl (by omega) (by decide) rfl ?_
  refine g_iadd (n := 13) C dX11_better_12 rfl ?_
  refine g_istore (n := 15) C dX11_better_13 rfl (by decide) ?_
  refine g_aload_n (n := 16) C dX11_better_15 rfl rfl ?_
  refine m_get (n := 19) 30 C dX11_better_16 rfl (by decide) rfl w_1130 rfl ?_
  refine g_iload_n (n := 20) C dX11_better_19 rfl rfl ?_
  refine m_iald (n := 21) 30 (a) C dX11_better_20 rfl I (by decide) rfl rfl (by omega) (by decide) rfl ?_
  refine g_aload_n (n := 22) C dX11_better_21 rfl rfl ?_
  refine m_get (n := 25) 30 C dX11_better_22 rfl (by decide) rfl w_1130 rfl ?_
  refine g_iload_n (n := 26) C dX11_better_25 rfl rfl ?_
  refine m_iald (n := 27) 30 (b) C dX11_better_26 rfl I (by decide) rfl rfl (by omega) (by decide) rfl ?_
  refine g_iadd (n := 28) C dX11_better_27 rfl ?_
  refine g_iconst (n := 29) (v := 1) C dX11_better_28 rfl (by decide) ?_
  refine g_iadd (n := 30) C dX11_better_29 rfl ?_
  refine g_istore (n := 32) C dX11_better_30 rfl (by decide) ?_
  refine g_iload (n := 34) C dX11_better_32 rfl rfl ?_
  refine g_aload_n (n := 35) C dX11_better_34 rfl rfl ?_
  refine m_get (n := 38) 29 C dX11_better_35 rfl (by decide) rfl w_1129 rfl ?_
  refine g_iload_n (n := 39) C dX11_better_38 rfl rfl ?_
  refine m_iald (n := 40) 29 (t) C dX11_better_39 rfl I (by decide) rfl rfl (by omega) (by decide) rfl ?_
  refine g_icmp_lt (n := 43) (t := 65) C dX11_better_40 rfl (by decide) (fun zc40 => ?_) (fun zc40 => ?_)
  · --t40
    refine g_vret C dX11_better_65 (by decide) (by decide) ?_
    first | exact k1 (Or.inl (by assumption)) | exact k1 (Or.inr ⟨by assumption, Int32.not_lt.mp (by assumption)⟩)
  · --f40
    refine g_iload (n := 45) C dX11_better_43 rfl rfl ?_
    refine g_aload_n (n := 46) C dX11_better_45 rfl rfl ?_
    refine m_get (n := 49) 29 C dX11_better_46 rfl (by decide) rfl w_1129 rfl ?_
    refine g_iload_n (n := 50) C dX11_better_49 rfl rfl ?_
    refine m_iald (n := 51) 29 (t) C dX11_better_50 rfl I (by decide) rfl rfl (by omega) (by decide) rfl ?_
    refine g_icmp_ne (n := 54) (t := 66) C dX11_better_51 rfl (by decide) (fun zc51 => ?_) (fun zc51 => ?_)
    · --t51
      refine g_aload_n (n := 67) C dX11_better_66 rfl rfl ?_
      refine m_get (n := 70) 29 C dX11_better_67 rfl (by decide) rfl w_1129 rfl ?_
      refine g_iload_n (n := 71) C dX11_better_70 rfl rfl ?_
      refine g_iload (n := 73) C dX11_better_71 rfl rfl ?_
      refine m_iast (n := 74) 29 (t) C dX11_better_73 rfl I (by decide) (fun _ => rfl) rfl (by omega) (by decide) ?_
      refine g_aload_n (n := 75) C dX11_better_74 rfl rfl ?_
      refine m_get (n := 78) 30 C dX11_better_75 rfl (by decide) rfl w_1130 rfl ?_
      refine g_iload_n (n := 79) C dX11_better_78 rfl rfl ?_
      refine g_iload (n := 81) C dX11_better_79 rfl rfl ?_
      refine m_iast (n := 82) 30 (t) C dX11_better_81 rfl I (by decide) (fun _ => rfl) rfl (by omega) (by decide) ?_
      refine g_vret C dX11_better_82 (by decide) (by decide) ?_
      first | exact k2 (by rintro (zq | zq) <;> first | exact absurd zq (by assumption) | exact absurd zq.1 (by assumption) | exact absurd zq.2 (Int32.not_le.mpr (by assumption)))
    · --f51
      refine g_iload (n := 56) C dX11_better_54 rfl rfl ?_
      refine g_aload_n (n := 57) C dX11_better_56 rfl rfl ?_
      refine m_get (n := 60) 30 C dX11_better_57 rfl (by decide) rfl w_1130 rfl ?_
      refine g_iload_n (n := 61) C dX11_better_60 rfl rfl ?_
      refine m_iald (n := 62) 30 (t) C dX11_better_61 rfl I (by decide) rfl rfl (by omega) (by decide) rfl ?_
      refine g_icmp_lt (n := 65) (t := 66) C dX11_better_62 rfl (by decide) (fun zc62 => ?_) (fun zc62 => ?_)
      · --t62
        refine g_aload_n (n := 67) C dX11_better_66 rfl rfl ?_
        refine m_get (n := 70) 29 C dX11_better_67 rfl (by decide) rfl w_1129 rfl ?_
        refine g_iload_n (n := 71) C dX11_better_70 rfl rfl ?_
        refine g_iload (n := 73) C dX11_better_71 rfl rfl ?_
        refine m_iast (n := 74) 29 (t) C dX11_better_73 rfl I (by decide) (fun _ => rfl) rfl (by omega) (by decide) ?_
        refine g_aload_n (n := 75) C dX11_better_74 rfl rfl ?_
        refine m_get (n := 78) 30 C dX11_better_75 rfl (by decide) rfl w_1130 rfl ?_
        refine g_iload_n (n := 79) C dX11_better_78 rfl rfl ?_
        refine g_iload (n := 81) C dX11_better_79 rfl rfl ?_
        refine m_iast (n := 82) 30 (t) C dX11_better_81 rfl I (by decide) (fun _ => rfl) rfl (by omega) (by decide) ?_
        refine g_vret C dX11_better_82 (by decide) (by decide) ?_
        first | exact k2 (by rintro (zq | zq) <;> first | exact absurd zq (by assumption) | exact absurd zq.1 (by assumption) | exact absurd zq.2 (Int32.not_le.mpr (by assumption)))
      · --f62
        refine g_vret C dX11_better_65 (by decide) (by decide) ?_
        first | exact k1 (Or.inl (by assumption)) | exact k1 (Or.inr ⟨by assumption, Int32.not_lt.mp (by assumption)⟩)
