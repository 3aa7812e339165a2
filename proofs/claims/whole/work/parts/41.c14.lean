theorem rcnt_k {p : Nat → Prop} {n : Nat} (h : ¬ p n) : rcnt p n = rcnt p (n + 1) := (Int32.add_zero _).symm.trans (rcnt_0 h)
/-- what a pit that found fo at sq says of the first p squares -/
def nlo (Lf : Nat → Int32) (sp sq fo : Int32) (p : Nat) : Nat → Int32 := fun s => if s < p then imax (Lf s) (fo - sp * rapart sq (nI s)) else Lf s
def nhi (Gf : Nat → Int32) (sp sq fo : Int32) (p : Nat) : Nat → Int32 := fun s => if s < p then imin (Gf s) (fo + sp * rapart sq (nI s)) else Gf s
theorem nlo_0 (Lf : Nat → Int32) (sp sq fo : Int32) : nlo Lf sp sq fo 0 = Lf := by
  funext s
  unfold nlo
  rw [if_neg (Nat.not_lt_zero s)]
theorem nhi_0 (Gf : Nat → Int32) (sp sq fo : Int32) : nhi Gf sp sq fo 0 = Gf := by
  funext s
  unfold nhi
  rw [if_neg (Nat.not_lt_zero s)]
theorem nlo_at (Lf : Nat → Int32) (sp sq fo : Int32) (p : Nat) : nlo Lf sp sq fo p p = Lf p := if_neg (Nat.lt_irrefl p)
theorem nhi_at (Gf : Nat → Int32) (sp sq fo : Int32) (p : Nat) : nhi Gf sp sq fo p p = Gf p := if_neg (Nat.lt_irrefl p)
theorem nlo_s (Lf : Nat → Int32) (sp sq fo : Int32) (p : Nat) : upd (nlo Lf sp sq fo p) p (imax (Lf p) (fo - sp * rapart sq (nI p))) = nlo Lf sp sq fo (p + 1) := by
  funext s
  unfold upd nlo
  by_cases h1 : s = p
  · rw [if_pos h1, if_pos (by omega), h1]
  · rw [if_neg h1]
    by_cases h2 : s < p
    · rw [if_pos h2, if_pos (by omega)]
    · rw [if_neg h2, if_neg (by omega)]
theorem nhi_s (Gf : Nat → Int32) (sp sq fo : Int32) (p : Nat) : upd (nhi Gf sp sq fo p) p (imin (Gf p) (fo + sp * rapart sq (nI p))) = nhi Gf sp sq fo (p + 1) := by
  funext s
  unfold upd nhi
  by_cases h1 : s = p
  · rw [if_pos h1, if_pos (by omega), h1]
  · rw [if_neg h1]
    by_cases h2 : s < p
    · rw [if_pos h2, if_pos (by omega)]
    · rw [if_neg h2, if_neg (by omega)]
theorem dX2_squaresOfOneAmount_0 : decode cX2_squaresOfOneAmount 0 = .ok (.iconst 0, 1) := by decide +kernel
theorem dX2_squaresOfOneAmount_1 : decode cX2_squaresOfOneAmount 1 = .ok (.istore_n 1, 1) := by decide +kernel
theorem dX2_squaresOfOneAmount_2 : decode cX2_squaresOfOneAmount 2 = .ok (.iconst 0, 1) := by decide +kernel
theorem dX2_squaresOfOneAmount_3 : decode cX2_squaresOfOneAmount 3 = .ok (.istore_n 2, 1) := by decide +kernel
theorem dX2_squaresOfOneAmount_4 : decode cX2_squaresOfOneAmount 4 = .ok (.iload_n 2, 1) := by decide +kernel
theorem dX2_squaresOfOneAmount_5 : decode cX2_squaresOfOneAmount 5 = .ok (.bipush 96, 2) := by decide +kernel
theorem dX2_squaresOfOneAmount_7 : decode cX2_squaresOfOneAmount 7 = .ok (.if_icmp .ge 27, 3) := by decide +kernel
theorem dX2_squaresOfOneAmount_10 : decode cX2_squaresOfOneAmount 10 = .ok (.aload_n 0, 1) := by decide +kernel
theorem dX2_squaresOfOneAmount_11 : decode cX2_squaresOfOneAmount 11 = .ok (.getfield 18, 3) := by decide +kernel
theorem dX2_squaresOfOneAmount_14 : decode cX2_squaresOfOneAmount 14 = .ok (.iload_n 2, 1) := by decide +kernel
theorem dX2_squaresOfOneAmount_15 : decode cX2_squaresOfOneAmount 15 = .ok (.iaload, 1) := by decide +kernel
theorem dX2_squaresOfOneAmount_16 : decode cX2_squaresOfOneAmount 16 = .ok (.aload_n 0, 1) := by decide +kernel
theorem dX2_squaresOfOneAmount_17 : decode cX2_squaresOfOneAmount 17 = .ok (.getfield 22, 3) := by decide +kernel
theorem dX2_squaresOfOneAmount_20 : decode cX2_squaresOfOneAmount 20 = .ok (.iload_n 2, 1) := by decide +kernel
theorem dX2_squaresOfOneAmount_21 : decode cX2_squaresOfOneAmount 21 = .ok (.iaload, 1) := by decide +kernel
theorem dX2_squaresOfOneAmount_22 : decode cX2_squaresOfOneAmount 22 = .ok (.if_icmp .ne 6, 3) := by decide +kernel
theorem dX2_squaresOfOneAmount_25 : decode cX2_squaresOfOneAmount 25 = .ok (.iinc 1 1, 3) := by decide +kernel
theorem dX2_squaresOfOneAmount_28 : decode cX2_squaresOfOneAmount 28 = .ok (.iinc 2 1, 3) := by decide +kernel
theorem dX2_squaresOfOneAmount_31 : decode cX2_squaresOfOneAmount 31 = .ok (.goto (-27), 3) := by decide +kernel
theorem dX2_squaresOfOneAmount_34 : decode cX2_squaresOfOneAmount 34 = .ok (.iload_n 1, 1) := by decide +kernel
theorem dX2_squaresOfOneAmount_35 : decode cX2_squaresOfOneAmount 35 = .ok (.ireturn, 1) := by decide +kernel
set_option maxHeartbeats 400000 in
set_option maxRecDepth 20000 in
theorem cc_gone {l : Launch} {E : Ev} {P : Value → AH → Prop}  {k al le gr lw : Nat} {sp to : Int32} {h : AH} (hk : h k = some (.inr (2, [.ref al, .ref le, .ref gr, .ref lw, .int sp, .int to]))) {Lf Gf : Nat → Int32} (hl : h le = some (.inl (E.2.2 1, 96, .inl Lf))) (hg : h gr = some (.inl (E.2.2 1, 96, .inl Gf))) (hp : P (.int (rcnt (fun s => Lf s = Gf s) 96)) h) : Mt l E yX2_squaresOfOneAmount cX2_squaresOfOneAmount 3 (some .int) 0 0 0 0 [.ref k] (h) P := by
  refine Mt.of (by decide) (Nat.le_of_ble_eq_true rfl) ?_
  intro K hK hR C
  refine g_iconst (n := 1) (v := 0) C dX2_squaresOfOneAmount_0 rfl (by decide) ?_
  refine g_istore_n (n := 2) C dX2_squaresOfOneAmount_1 rfl (by decide) ?_
  refine g_iconst (n := 3) (v := 0) C dX2_squaresOfOneAmount_2 rfl (by decide) ?_
  refine g_istore_n (n := 4) C dX2_squaresOfOneAmount_3 rfl (by decide) ?_
  have lp : ∀ p : Nat, p ≤ 96 → ∀ (v t9 : Int32), v = rcnt (fun s => Lf s = Gf s) p → t9 = nI p → G K E 3 (QM K E (some .int) 0 0 P) 0 0 4 [(0, .ref k), (1, .int v), (2, .int t9)] [] (h) := by
    refine loopN (fun p => ∀ (v t9 : Int32), v = rcnt (fun s => Lf s = Gf s) p → t9 = nI p → G K E 3 (QM K E (some .int) 0 0 P) 0 0 4 [(0, .ref k), (1, .int v), (2, .int t9)] [] (h)) (96) ?_
    intro p hlep ihp v t9 ev et
    subst et
    refine g_iload_n (n := 5) C dX2_squaresOfOneAmount_4 rfl rfl ?_
    refine g_bipush (n := 7) (v := 96) C dX2_squaresOfOneAmount_5 rfl (by decide) ?_
    refine g_icmp_ge (n := 10) (t := 34) C dX2_squaresOfOneAmount_7 rfl (by decide) (fun zc7 => ?_) (fun zc7 => ?_)
    · --t7
      refine g_iload_n (n := 35) C dX2_squaresOfOneAmount_34 rfl rfl ?_
      refine g_iret C dX2_squaresOfOneAmount_35 (by decide) (by decide) ?_
      have ep : p = 96 := i_eq (n := 96) rfl zc7 hlep (by decide)
      subst ep
      rw [ev]
      exact hp
    · --f7
      refine g_aload_n (n := 11) C dX2_squaresOfOneAmount_10 rfl rfl ?_
      refine g_get (n := 14) (T := TX2) C 1 dX2_squaresOfOneAmount_11 rfl hk rfl rfl (by decide) inX2 w_147 rfl ?_
      refine g_iload_n (n := 15) C dX2_squaresOfOneAmount_14 rfl rfl ?_
      refine f_iald (n := 16) (p) C dX2_squaresOfOneAmount_15 rfl hl rfl (i_lt (n := 96) rfl zc7 hlep (by decide)) (by decide) (rfl) ?_
      refine g_aload_n (n := 17) C dX2_squaresOfOneAmount_16 rfl rfl ?_
      refine g_get (n := 20) (T := TX2) C 2 dX2_squaresOfOneAmount_17 rfl hk rfl rfl (by decide) inX2 w_148 rfl ?_
      refine g_iload_n (n := 21) C dX2_squaresOfOneAmount_20 rfl rfl ?_
      refine f_iald (n := 22) (p) C dX2_squaresOfOneAmount_21 rfl hg rfl (i_lt (n := 96) rfl zc7 hlep (by decide)) (by decide) (rfl) ?_
      refine g_icmp_ne (n := 25) (t := 28) C dX2_squaresOfOneAmount_22 rfl (by decide) (fun zc22 => ?_) (fun zc22 => ?_)
      · --t22
        refine g_iinc (n := 31) C dX2_squaresOfOneAmount_28 rfl rfl rfl (by decide) ?_
        refine g_goto (t := 4) C dX2_squaresOfOneAmount_31 (by decide) ?_
        exact g_lv [0, 1, 2] rfl (ihp (i_lt (n := 96) rfl zc7 hlep (by decide)) _ _ (by rw [ev]; first | exact rcnt_1 (by assumption) | exact rcnt_k (by assumption)) (nI_1 p))
      · --f22
        refine g_iinc (n := 28) C dX2_squaresOfOneAmount_25 rfl rfl rfl (by decide) ?_
        refine g_iinc (n := 31) C dX2_squaresOfOneAmount_28 rfl rfl rfl (by decide) ?_
        refine g_goto (t := 4) C dX2_squaresOfOneAmount_31 (by decide) ?_
        exact g_lv [0, 1, 2] rfl (ihp (i_lt (n := 96) rfl zc7 hlep (by decide)) _ _ (by rw [ev]; first | exact rcnt_1 (by assumption) | exact rcnt_k (by assumption)) (nI_1 p))
  exact g_lv [0, 1, 2] rfl (lp 0 (Nat.zero_le _) _ _ rfl rfl)
theorem dX2_squaresWithoutSpan_0 : decode cX2_squaresWithoutSpan 0 = .ok (.iconst 0, 1) := by decide +kernel
theorem dX2_squaresWithoutSpan_1 : decode cX2_squaresWithoutSpan 1 = .ok (.istore_n 1, 1) := by decide +kernel
theorem dX2_squaresWithoutSpan_2 : decode cX2_squaresWithoutSpan 2 = .ok (.iconst 0, 1) := by decide +kernel
theorem dX2_squaresWithoutSpan_3 : decode cX2_squaresWithoutSpan 3 = .ok (.istore_n 2, 1) := by decide +kernel
theorem dX2_squaresWithoutSpan_4 : decode cX2_squaresWithoutSpan 4 = .ok (.iload_n 2, 1) := by decide +kernel
theorem dX2_squaresWithoutSpan_5 : decode cX2_squaresWithoutSpan 5 = .ok (.bipush 96, 2) := by decide +kernel
theorem dX2_squaresWithoutSpan_7 : decode cX2_squaresWithoutSpan 7 = .ok (.if_icmp .ge 20, 3) := by decide +kernel
theorem dX2_squaresWithoutSpan_10 : decode cX2_squaresWithoutSpan 10 = .ok (.aload_n 0, 1) := by decide +kernel
theorem dX2_squaresWithoutSpan_11 : decode cX2_squaresWithoutSpan 11 = .ok (.iload_n 2, 1) := by decide +kernel
theorem dX2_squaresWithoutSpan_12 : decode cX2_squaresWithoutSpan 12 = .ok (.invokevirtual 88, 3) := by decide +kernel
theorem dX2_squaresWithoutSpan_15 : decode cX2_squaresWithoutSpan 15 = .ok (.ifCond .ne 6, 3) := by decide +kernel
theorem dX2_squaresWithoutSpan_18 : decode cX2_squaresWithoutSpan 18 = .ok (.iinc 1 1, 3) := by decide +kernel
theorem dX2_squaresWithoutSpan_21 : decode cX2_squaresWithoutSpan 21 = .ok (.iinc 2 1, 3) := by decide +kernel
theorem dX2_squaresWithoutSpan_24 : decode cX2_squaresWithoutSpan 24 = .ok (.goto (-20), 3) := by decide +kernel
theorem dX2_squaresWithoutSpan_27 : decode cX2_squaresWithoutSpan 27 = .ok (.iload_n 1, 1) := by decide +kernel
theorem dX2_squaresWithoutSpan_28 : decode cX2_squaresWithoutSpan 28 = .ok (.ireturn, 1) := by decide +kernel
set_option maxHeartbeats 400000 in
set_option maxRecDepth 20000 in
theorem cc_gnone {l : Launch} {E : Ev} {P : Value → AH → Prop}  {k al le gr lw : Nat} {sp to : Int32} {h : AH} (hk : h k = some (.inr (2, [.ref al, .ref le, .ref gr, .ref lw, .int sp, .int to]))) {Lf Gf : Nat → Int32} (hl : h le = some (.inl (E.2.2 1, 96, .inl Lf))) (hg : h gr = some (.inl (E.2.2 1, 96, .inl Gf))) (hp : P (.int (rcnt (fun s => ¬ Lf s ≤ Gf s) 96)) h) : Mt l E yX2_squaresWithoutSpan cX2_squaresWithoutSpan 3 (some .int) 1 21 0 0 [.ref k] (h) P := by
  refine Mt.of (by decide) (Nat.le_of_ble_eq_true rfl) ?_
  intro K hK hR C
  refine g_iconst (n := 1) (v := 0) C dX2_squaresWithoutSpan_0 rfl (by decide) ?_
  refine g_istore_n (n := 2) C dX2_squaresWithoutSpan_1 rfl (by decide) ?_
  refine g_iconst (n := 3) (v := 0) C dX2_squaresWithoutSpan_2 rfl (by decide) ?_
  refine g_istore_n (n := 4) C dX2_squaresWithoutSpan_3 rfl (by decide) ?_
  have lp : ∀ p : Nat, p ≤ 96 → ∀ (v t9 : Int32), v = rcnt (fun s => ¬ Lf s ≤ Gf s) p → t9 = nI p → G K E 3 (QM K E (some .int) 0 0 P) 0 0 4 [(0, .ref k), (1, .int v), (2, .int t9)] [] (h) := by
    refine loopN (fun p => ∀ (v t9 : Int32), v = rcnt (fun s => ¬ Lf s ≤ Gf s) p → t9 = nI p → G K E 3 (QM K E (some .int) 0 0 P) 0 0 4 [(0, .ref k), (1, .int v), (2, .int t9)] [] (h)) (96) ?_
    intro p hlep ihp v t9 ev et
    subst et
    refine g_iload_n (n := 5) C dX2_squaresWithoutSpan_4 rfl rfl ?_
    refine g_bipush (n := 7) (v := 96) C dX2_squaresWithoutSpan_5 rfl (by decide) ?_
    refine g_icmp_ge (n := 10) (t := 27) C dX2_squaresWithoutSpan_7 rfl (by decide) (fun zc7 => ?_) (fun zc7 => ?_)
    · --t7
      refine g_iload_n (n := 28) C dX2_squaresWithoutSpan_27 rfl rfl ?_
      refine g_iret C dX2_squaresWithoutSpan_28 (by decide) (by decide) ?_
      have ep : p = 96 := i_eq (n := 96) rfl zc7 hlep (by decide)
      subst ep
      rw [ev]
      exact hp
    · --f7
      refine g_aload_n (n := 11) C dX2_squaresWithoutSpan_10 rfl rfl ?_
      refine g_iload_n (n := 12) C dX2_squaresWithoutSpan_11 rfl rfl ?_
      refine g_callV (n := 15) (As := [.int _]) C dX2_squaresWithoutSpan_12 rfl mw_X2_hasSpan w_286 (g_recv C hk rfl) rfl rfl (room hR rfl) (cc_gspan hk hl hg (i_lt (n := 96) rfl zc7 hlep (by decide)) (fun za12 => ?_) (fun zb12 => ?_))
      · --k12.0
        refine g_if_ne (n := 18) (t := 21) C dX2_squaresWithoutSpan_15 rfl (by decide) (fun zc15 => ?_) (fun zc15 => ?_)
        rotate_left
        · exact absurd zc15 (by decide)
        refine g_iinc (n := 24) C dX2_squaresWithoutSpan_21 rfl rfl rfl (by decide) ?_
        refine g_goto (t := 4) C dX2_squaresWithoutSpan_24 (by decide) ?_
        exact g_lv [0, 1, 2] rfl (ihp (i_lt (n := 96) rfl zc7 hlep (by decide)) _ _ (by rw [ev]; first | exact rcnt_1 (by assumption) | exact rcnt_k (fun zq => zq (by assumption))) (nI_1 p))
      · --k12.1
        refine g_if_ne (n := 18) (t := 21) C dX2_squaresWithoutSpan_15 rfl (by decide) (fun zc15 => ?_) (fun zc15 => ?_)
        · exact absurd zc15 (by decide)
        refine g_iinc (n := 21) C dX2_squaresWithoutSpan_18 rfl rfl rfl (by decide) ?_
        refine g_iinc (n := 24) C dX2_squaresWithoutSpan_21 rfl rfl rfl (by decide) ?_
        refine g_goto (t := 4) C dX2_squaresWithoutSpan_24 (by decide) ?_
        exact g_lv [0, 1, 2] rfl (ihp (i_lt (n := 96) rfl zc7 hlep (by decide)) _ _ (by rw [ev]; first | exact rcnt_1 (by assumption) | exact rcnt_k (fun zq => zq (by assumption))) (nI_1 p))
  exact g_lv [0, 1, 2] rfl (lp 0 (Nat.zero_le _) _ _ rfl rfl)
theorem dX2_narrowSpans_0 : decode cX2_narrowSpans 0 = .ok (.aload_n 1, 1) := by decide +kernel
theorem dX2_narrowSpans_1 : decode cX2_narrowSpans 1 = .ok (.getfield 85, 3) := by decide +kernel
theorem dX2_narrowSpans_4 : decode cX2_narrowSpans 4 = .ok (.iconst (-1), 1) := by decide +kernel
theorem dX2_narrowSpans_5 : decode cX2_narrowSpans 5 = .ok (.if_icmp .ne 4, 3) := by decide +kernel
theorem dX2_narrowSpans_8 : decode cX2_narrowSpans 8 = .ok (.return_, 1) := by decide +kernel
theorem dX2_narrowSpans_9 : decode cX2_narrowSpans 9 = .ok (.iconst 0, 1) := by decide +kernel
theorem dX2_narrowSpans_10 : decode cX2_narrowSpans 10 = .ok (.istore_n 2, 1) := by decide +kernel
theorem dX2_narrowSpans_11 : decode cX2_narrowSpans 11 = .ok (.iload_n 2, 1) := by decide +kernel
theorem dX2_narrowSpans_12 : decode cX2_narrowSpans 12 = .ok (.bipush 96, 2) := by decide +kernel
theorem dX2_narrowSpans_14 : decode cX2_narrowSpans 14 = .ok (.if_icmp .ge 65, 3) := by decide +kernel
theorem dX2_narrowSpans_17 : decode cX2_narrowSpans 17 = .ok (.aload_n 0, 1) := by decide +kernel
theorem dX2_narrowSpans_18 : decode cX2_narrowSpans 18 = .ok (.getfield 32, 3) := by decide +kernel
theorem dX2_narrowSpans_21 : decode cX2_narrowSpans 21 = .ok (.aload_n 1, 1) := by decide +kernel
theorem dX2_narrowSpans_22 : decode cX2_narrowSpans 22 = .ok (.getfield 65, 3) := by decide +kernel
theorem dX2_narrowSpans_25 : decode cX2_narrowSpans 25 = .ok (.iload_n 2, 1) := by decide +kernel
theorem dX2_narrowSpans_26 : decode cX2_narrowSpans 26 = .ok (.invokestatic 72, 3) := by decide +kernel
theorem dX2_narrowSpans_29 : decode cX2_narrowSpans 29 = .ok (.imul, 1) := by decide +kernel
theorem dX2_narrowSpans_30 : decode cX2_narrowSpans 30 = .ok (.istore_n 3, 1) := by decide +kernel
theorem dX2_narrowSpans_31 : decode cX2_narrowSpans 31 = .ok (.aload_n 0, 1) := by decide +kernel
theorem dX2_narrowSpans_32 : decode cX2_narrowSpans 32 = .ok (.getfield 18, 3) := by decide +kernel
theorem dX2_narrowSpans_35 : decode cX2_narrowSpans 35 = .ok (.iload_n 2, 1) := by decide +kernel
theorem dX2_narrowSpans_36 : decode cX2_narrowSpans 36 = .ok (.aload_n 0, 1) := by decide +kernel
theorem dX2_narrowSpans_37 : decode cX2_narrowSpans 37 = .ok (.getfield 18, 3) := by decide +kernel
theorem dX2_narrowSpans_40 : decode cX2_narrowSpans 40 = .ok (.iload_n 2, 1) := by decide +kernel
theorem dX2_narrowSpans_41 : decode cX2_narrowSpans 41 = .ok (.iaload, 1) := by decide +kernel
theorem dX2_narrowSpans_42 : decode cX2_narrowSpans 42 = .ok (.aload_n 1, 1) := by decide +kernel
theorem dX2_narrowSpans_43 : decode cX2_narrowSpans 43 = .ok (.getfield 85, 3) := by decide +kernel
theorem dX2_narrowSpans_46 : decode cX2_narrowSpans 46 = .ok (.iload_n 3, 1) := by decide +kernel
theorem dX2_narrowSpans_47 : decode cX2_narrowSpans 47 = .ok (.isub, 1) := by decide +kernel
theorem dX2_narrowSpans_48 : decode cX2_narrowSpans 48 = .ok (.invokestatic 102, 3) := by decide +kernel
theorem dX2_narrowSpans_51 : decode cX2_narrowSpans 51 = .ok (.iastore, 1) := by decide +kernel
theorem dX2_narrowSpans_52 : decode cX2_narrowSpans 52 = .ok (.aload_n 0, 1) := by decide +kernel
theorem dX2_narrowSpans_53 : decode cX2_narrowSpans 53 = .ok (.getfield 22, 3) := by decide +kernel
theorem dX2_narrowSpans_56 : decode cX2_narrowSpans 56 = .ok (.iload_n 2, 1) := by decide +kernel
theorem dX2_narrowSpans_57 : decode cX2_narrowSpans 57 = .ok (.aload_n 0, 1) := by decide +kernel
theorem dX2_narrowSpans_58 : decode cX2_narrowSpans 58 = .ok (.getfield 22, 3) := by decide +kernel
theorem dX2_narrowSpans_61 : decode cX2_narrowSpans 61 = .ok (.iload_n 2, 1) := by decide +kernel
theorem dX2_narrowSpans_62 : decode cX2_narrowSpans 62 = .ok (.iaload, 1) := by decide +kernel
theorem dX2_narrowSpans_63 : decode cX2_narrowSpans 63 = .ok (.aload_n 1, 1) := by decide +kernel
theorem dX2_narrowSpans_64 : decode cX2_narrowSpans 64 = .ok (.getfield 85, 3) := by decide +kernel
theorem dX2_narrowSpans_67 : decode cX2_narrowSpans 67 = .ok (.iload_n 3, 1) := by decide +kernel
theorem dX2_narrowSpans_68 : decode cX2_narrowSpans 68 = .ok (.iadd, 1) := by decide +kernel
theorem dX2_narrowSpans_69 : decode cX2_narrowSpans 69 = .ok (.invokestatic 59, 3) := by decide +kernel
theorem dX2_narrowSpans_72 : decode cX2_narrowSpans 72 = .ok (.iastore, 1) := by decide +kernel
theorem dX2_narrowSpans_73 : decode cX2_narrowSpans 73 = .ok (.iinc 2 1, 3) := by decide +kernel
theorem dX2_narrowSpans_76 : decode cX2_narrowSpans 76 = .ok (.goto (-65), 3) := by decide +kernel
theorem dX2_narrowSpans_79 : decode cX2_narrowSpans 79 = .ok (.return_, 1) := by decide +kernel
set_option maxHeartbeats 1000000 in
set_option maxRecDepth 20000 in
theorem cc_narrow {l : Launch} {E : Ev} {P : Value → AH → Prop}  {k al le gr lw : Nat} {sp to : Int32} {h : AH} (hk : h k = some (.inr (2, [.ref al, .ref le, .ref gr, .ref lw, .int sp, .int to]))) {Lf Gf : Nat → Int32} (hl : h le = some (.inl (E.2.2 1, 96, .inl Lf))) (hg : h gr = some (.inl (E.2.2 1, 96, .inl Gf))) {a : Nat} {sq su la bo fo fi : Int32} (ha : h a = some (.inr (5, [.int sq, .int su, .int la, .int bo, .int fo, .int fi]))) (hlg : le ≠ gr) (hkn : k ∉ [le, gr]) (han : a ∉ [le, gr]) (k0 : fo = -1 → P .null h) (k1 : ¬ fo = -1 → P .null (LW [(le, .inl (E.2.2 1, 96, .inl (nlo Lf sp sq fo 96))), (gr, .inl (E.2.2 1, 96, .inl (nhi Gf sp sq fo 96)))] h)) : Mt l E yX2_narrowSpans cX2_narrowSpans 4 none 2 44 0 0 [.ref k, .ref a] (h) P := by
  refine Mt.of (by decide) (Nat.le_of_ble_eq_true rfl) ?_
  intro K hK hR C
  refine g_aload_n (n := 1) C dX2_narrowSpans_0 rfl rfl ?_
  refine g_get (n := 4) (T := TX5) C 4 dX2_narrowSpans_1 rfl ha rfl rfl (by decide) inX5 w_759 rfl ?_
  refine g_iconst (n := 5) (v := (-1)) C dX2_narrowSpans_4 rfl (by decide) ?_
  refine g_icmp_ne (n := 8) (t := 9) C dX2_narrowSpans_5 rfl (by decide) (fun zc5 => ?_) (fun zc5 => ?_)
  · --t5
    rw [LW_is2 hl hg]
    rw [← nlo_0 Lf sp sq fo, ← nhi_0 Gf sp sq fo]
    refine g_iconst (n := 10) (v := 0) C dX2_narrowSpans_9 rfl (by decide) ?_
    refine g_istore_n (n := 11) C dX2_narrowSpans_10 rfl (by decide) ?_
    have lp : ∀ p : Nat, p ≤ 96 → ∀ (t9 : Int32), t9 = nI p → G K E 4 (QM K E none 0 0 P) 0 0 11 [(0, .ref k), (1, .ref a), (2, .int t9)] [] (LW [(le, .inl (E.2.2 1, 96, .inl (nlo Lf sp sq fo p))), (gr, .inl (E.2.2 1, 96, .inl (nhi Gf sp sq fo p)))] h) := by
      refine loopN (fun p => ∀ (t9 : Int32), t9 = nI p → G K E 4 (QM K E none 0 0 P) 0 0 11 [(0, .ref k), (1, .ref a), (2, .int t9)] [] (LW [(le, .inl (E.2.2 1, 96, .inl (nlo Lf sp sq fo p))), (gr, .inl (E.2.2 1, 96, .inl (nhi Gf sp sq fo p)))] h)) (96) ?_
      intro p hlep ihp t9 et
      subst et
      have A0 : lA [(le, (.inl (E.2.2 1, 96, .inl (nlo Lf sp sq fo p)) : va_E)), (gr, .inl (E.2.2 1, 96, .inl (nhi Gf sp sq fo p)))] := lA_two hlg
      refine g_iload_n (n := 12) C dX2_narrowSpans_11 rfl rfl ?_
      refine g_bipush (n := 14) (v := 96) C dX2_narrowSpans_12 rfl (by decide) ?_
      refine g_icmp_ge (n := 17) (t := 79) C dX2_narrowSpans_14 rfl (by decide) (fun zc14 => ?_) (fun zc14 => ?_)
      · --t14
        refine g_vret C dX2_narrowSpans_79 (by decide) (by decide) ?_
        have ep : p = 96 := i_eq (n := 96) rfl zc14 hlep (by decide)
        subst ep
        exact k1 zc5
      · --f14
        refine g_aload_n (n := 18) C dX2_narrowSpans_17 rfl rfl ?_
        refine b_get (n := 21) (T := TX2) 4 C dX2_narrowSpans_18 rfl hk hkn rfl rfl (by decide) inX2 w_150 rfl ?_
        refine g_aload_n (n := 22) C dX2_narrowSpans_21 rfl rfl ?_
        refine b_get (n := 25) (T := TX5) 0 C dX2_narrowSpans_22 rfl ha han rfl rfl (by decide) inX5 w_750 rfl ?_
        refine g_iload_n (n := 26) C dX2_narrowSpans_25 rfl rfl ?_
        refine g_callS (n := 29) (As := [.int _, .int _]) C dX2_narrowSpans_26 rfl mw_X2_stepsApart w_317 rfl rfl (room hR rfl) (cc_apart ?_)
        refine g_imul (n := 30) C dX2_narrowSpans_29 rfl ?_
        refine g_istore_n (n := 31) C dX2_narrowSpans_30 rfl (by decide) ?_
        refine g_aload_n (n := 32) C dX2_narrowSpans_31 rfl rfl ?_
        refine b_get (n := 35) (T := TX2) 1 C dX2_narrowSpans_32 rfl hk hkn rfl rfl (by decide) inX2 w_147 rfl ?_
        refine g_iload_n (n := 36) C dX2_narrowSpans_35 rfl rfl ?_
        refine g_aload_n (n := 37) C dX2_narrowSpans_36 rfl rfl ?_
        refine b_get (n := 40) (T := TX2) 1 C dX2_narrowSpans_37 rfl hk hkn rfl rfl (by decide) inX2 w_147 rfl ?_
        refine g_iload_n (n := 41) C dX2_narrowSpans_40 rfl rfl ?_
        refine l_iald (n := 42) (v := (Lf p)) 0 (p) C dX2_narrowSpans_41 rfl A0 rfl rfl (i_lt (n := 96) rfl zc14 hlep (by decide)) (by decide) (nlo_at _ _ _ _ p) ?_
        refine g_aload_n (n := 43) C dX2_narrowSpans_42 rfl rfl ?_
        refine b_get (n := 46) (T := TX5) 4 C dX2_narrowSpans_43 rfl ha han rfl rfl (by decide) inX5 w_759 rfl ?_
        refine g_iload_n (n := 47) C dX2_narrowSpans_46 rfl rfl ?_
        refine g_isub (n := 48) C dX2_narrowSpans_47 rfl ?_
        refine g_max (n := 51) C dX2_narrowSpans_48 rfl mwM_max w_323 (roomM hR rfl) ?_
        refine l_iast (n := 52) 0 (p) C dX2_narrowSpans_51 rfl A0 rfl rfl (i_lt (n := 96) rfl zc14 hlep (by decide)) (by decide) ?_
        dsimp only [List.set]
        refine g_aload_n (n := 53) C dX2_narrowSpans_52 rfl rfl ?_
        refine b_get (n := 56) (T := TX2) 2 C dX2_narrowSpans_53 rfl hk hkn rfl rfl (by decide) inX2 w_148 rfl ?_
        refine g_iload_n (n := 57) C dX2_narrowSpans_56 rfl rfl ?_
        refine g_aload_n (n := 58) C dX2_narrowSpans_57 rfl rfl ?_
        refine b_get (n := 61) (T := TX2) 2 C dX2_narrowSpans_58 rfl hk hkn rfl rfl (by decide) inX2 w_148 rfl ?_
        refine g_iload_n (n := 62) C dX2_narrowSpans_61 rfl rfl ?_
        refine l_iald (n := 63) (v := (Gf p)) 1 (p) C dX2_narrowSpans_62 rfl A0 rfl rfl (i_lt (n := 96) rfl zc14 hlep (by decide)) (by decide) (nhi_at _ _ _ _ p) ?_
        refine g_aload_n (n := 64) C dX2_narrowSpans_63 rfl rfl ?_
        refine b_get (n := 67) (T := TX5) 4 C dX2_narrowSpans_64 rfl ha han rfl rfl (by decide) inX5 w_759 rfl ?_
        refine g_iload_n (n := 68) C dX2_narrowSpans_67 rfl rfl ?_
        refine g_iadd (n := 69) C dX2_narrowSpans_68 rfl ?_
        refine g_min (n := 72) C dX2_narrowSpans_69 rfl mwM_min w_499 (roomM hR rfl) ?_
        refine l_iast (n := 73) 1 (p) C dX2_narrowSpans_72 rfl A0 rfl rfl (i_lt (n := 96) rfl zc14 hlep (by decide)) (by decide) ?_
        dsimp only [List.set]
        rw [show (if Lf p < fo - sp * rapart sq (nI p) then fo - sp * rapart sq (nI p) else Lf p) = imax (Lf p) (fo - sp * rapart sq (nI p)) from rfl, nlo_s, show (if fo + sp * rapart sq (nI p) < Gf p then fo + sp * rapart sq (nI p) else Gf p) = imin (Gf p) (fo + sp * rapart sq (nI p)) from rfl, nhi_s]
        refine g_iinc (n := 76) C dX2_narrowSpans_73 rfl rfl rfl (by decide) ?_
        refine g_goto (t := 11) C dX2_narrowSpans_76 (by decide) ?_
        exact g_lv [0, 1, 2] rfl (ihp (i_lt (n := 96) rfl zc14 hlep (by decide)) _ (nI_1 p))
    exact g_lv [0, 1, 2] rfl (lp 0 (Nat.zero_le _) _ rfl)
  · --f5
    refine g_vret C dX2_narrowSpans_8 (by decide) (by decide) ?_
    exact k0 zc5
