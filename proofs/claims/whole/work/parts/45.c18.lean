/-- square s is better than sum b with least c, has a span, and a pit may be sunk there -/
def ctk (Lf Gf : Nat → Int32) (A : Nat → Nat → Int32) (ap : Int32) (n : Nat) (b c : Int32) (s : Nat) : Prop := (b < Lf s + Gf s ∨ (Lf s + Gf s = b ∧ c < Lf s)) ∧ Lf s ≤ Gf s ∧ ∀ i, i < n → cok A ap (nI s) i
noncomputable def cbst (Lf Gf : Nat → Int32) (A : Nat → Nat → Int32) (ap : Int32) (n : Nat) : Nat → Int32 × Int32 × Int32
  | 0 => (-1, -1, -1)
  | s + 1 => @ite _ (ctk Lf Gf A ap n (cbst Lf Gf A ap n s).2.1 (cbst Lf Gf A ap n s).2.2 s) (Classical.propDecidable _) (nI s, Lf s + Gf s, Lf s) (cbst Lf Gf A ap n s)
theorem cbst_t {Lf Gf : Nat → Int32} {A : Nat → Nat → Int32} {ap : Int32} {n s : Nat} {a b c : Int32} (e : (a, b, c) = cbst Lf Gf A ap n s) (h : ctk Lf Gf A ap n b c s) : (nI s, Lf s + Gf s, Lf s) = cbst Lf Gf A ap n (s + 1) := by
  conv => rhs; unfold cbst
  rw [← e]
  exact (if_pos h).symm
theorem cbst_k {Lf Gf : Nat → Int32} {A : Nat → Nat → Int32} {ap : Int32} {n s : Nat} {a b c : Int32} (e : (a, b, c) = cbst Lf Gf A ap n s) (h : ¬ ctk Lf Gf A ap n b c s) : (a, b, c) = cbst Lf Gf A ap n (s + 1) := by
  conv => rhs; unfold cbst
  rw [← e]
  exact (if_neg h).symm
theorem dX2_bestSquare_0 : decode cX2_bestSquare 0 = .ok (.iconst (-1), 1) := by decide +kernel
theorem dX2_bestSquare_1 : decode cX2_bestSquare 1 = .ok (.istore_n 1, 1) := by decide +kernel
theorem dX2_bestSquare_2 : decode cX2_bestSquare 2 = .ok (.iconst (-1), 1) := by decide +kernel
theorem dX2_bestSquare_3 : decode cX2_bestSquare 3 = .ok (.istore_n 2, 1) := by decide +kernel
theorem dX2_bestSquare_4 : decode cX2_bestSquare 4 = .ok (.iconst (-1), 1) := by decide +kernel
theorem dX2_bestSquare_5 : decode cX2_bestSquare 5 = .ok (.istore_n 3, 1) := by decide +kernel
theorem dX2_bestSquare_6 : decode cX2_bestSquare 6 = .ok (.iconst 0, 1) := by decide +kernel
theorem dX2_bestSquare_7 : decode cX2_bestSquare 7 = .ok (.istore 4, 2) := by decide +kernel
theorem dX2_bestSquare_9 : decode cX2_bestSquare 9 = .ok (.iload 4, 2) := by decide +kernel
theorem dX2_bestSquare_11 : decode cX2_bestSquare 11 = .ok (.bipush 96, 2) := by decide +kernel
theorem dX2_bestSquare_13 : decode cX2_bestSquare 13 = .ok (.if_icmp .ge 93, 3) := by decide +kernel
theorem dX2_bestSquare_16 : decode cX2_bestSquare 16 = .ok (.aload_n 0, 1) := by decide +kernel
theorem dX2_bestSquare_17 : decode cX2_bestSquare 17 = .ok (.getfield 18, 3) := by decide +kernel
theorem dX2_bestSquare_20 : decode cX2_bestSquare 20 = .ok (.iload 4, 2) := by decide +kernel
theorem dX2_bestSquare_22 : decode cX2_bestSquare 22 = .ok (.iaload, 1) := by decide +kernel
theorem dX2_bestSquare_23 : decode cX2_bestSquare 23 = .ok (.aload_n 0, 1) := by decide +kernel
theorem dX2_bestSquare_24 : decode cX2_bestSquare 24 = .ok (.getfield 22, 3) := by decide +kernel
theorem dX2_bestSquare_27 : decode cX2_bestSquare 27 = .ok (.iload 4, 2) := by decide +kernel
theorem dX2_bestSquare_29 : decode cX2_bestSquare 29 = .ok (.iaload, 1) := by decide +kernel
theorem dX2_bestSquare_30 : decode cX2_bestSquare 30 = .ok (.iadd, 1) := by decide +kernel
theorem dX2_bestSquare_31 : decode cX2_bestSquare 31 = .ok (.istore 5, 2) := by decide +kernel
theorem dX2_bestSquare_33 : decode cX2_bestSquare 33 = .ok (.iload 5, 2) := by decide +kernel
theorem dX2_bestSquare_35 : decode cX2_bestSquare 35 = .ok (.iload_n 2, 1) := by decide +kernel
theorem dX2_bestSquare_36 : decode cX2_bestSquare 36 = .ok (.if_icmp .gt 20, 3) := by decide +kernel
theorem dX2_bestSquare_39 : decode cX2_bestSquare 39 = .ok (.iload 5, 2) := by decide +kernel
theorem dX2_bestSquare_41 : decode cX2_bestSquare 41 = .ok (.iload_n 2, 1) := by decide +kernel
theorem dX2_bestSquare_42 : decode cX2_bestSquare 42 = .ok (.if_icmp .ne 18, 3) := by decide +kernel
theorem dX2_bestSquare_45 : decode cX2_bestSquare 45 = .ok (.aload_n 0, 1) := by decide +kernel
theorem dX2_bestSquare_46 : decode cX2_bestSquare 46 = .ok (.getfield 18, 3) := by decide +kernel
theorem dX2_bestSquare_49 : decode cX2_bestSquare 49 = .ok (.iload 4, 2) := by decide +kernel
theorem dX2_bestSquare_51 : decode cX2_bestSquare 51 = .ok (.iaload, 1) := by decide +kernel
theorem dX2_bestSquare_52 : decode cX2_bestSquare 52 = .ok (.iload_n 3, 1) := by decide +kernel
theorem dX2_bestSquare_53 : decode cX2_bestSquare 53 = .ok (.if_icmp .le 7, 3) := by decide +kernel
theorem dX2_bestSquare_56 : decode cX2_bestSquare 56 = .ok (.iconst 1, 1) := by decide +kernel
theorem dX2_bestSquare_57 : decode cX2_bestSquare 57 = .ok (.goto 4, 3) := by decide +kernel
theorem dX2_bestSquare_60 : decode cX2_bestSquare 60 = .ok (.iconst 0, 1) := by decide +kernel
theorem dX2_bestSquare_61 : decode cX2_bestSquare 61 = .ok (.istore 6, 2) := by decide +kernel
theorem dX2_bestSquare_63 : decode cX2_bestSquare 63 = .ok (.iload 6, 2) := by decide +kernel
theorem dX2_bestSquare_65 : decode cX2_bestSquare 65 = .ok (.ifCond .eq 35, 3) := by decide +kernel
theorem dX2_bestSquare_68 : decode cX2_bestSquare 68 = .ok (.aload_n 0, 1) := by decide +kernel
theorem dX2_bestSquare_69 : decode cX2_bestSquare 69 = .ok (.iload 4, 2) := by decide +kernel
theorem dX2_bestSquare_71 : decode cX2_bestSquare 71 = .ok (.invokevirtual 88, 3) := by decide +kernel
theorem dX2_bestSquare_74 : decode cX2_bestSquare 74 = .ok (.ifCond .eq 26, 3) := by decide +kernel
theorem dX2_bestSquare_77 : decode cX2_bestSquare 77 = .ok (.aload_n 0, 1) := by decide +kernel
theorem dX2_bestSquare_78 : decode cX2_bestSquare 78 = .ok (.iload 4, 2) := by decide +kernel
theorem dX2_bestSquare_80 : decode cX2_bestSquare 80 = .ok (.invokevirtual 92, 3) := by decide +kernel
theorem dX2_bestSquare_83 : decode cX2_bestSquare 83 = .ok (.ifCond .eq 17, 3) := by decide +kernel
theorem dX2_bestSquare_86 : decode cX2_bestSquare 86 = .ok (.iload 4, 2) := by decide +kernel
theorem dX2_bestSquare_88 : decode cX2_bestSquare 88 = .ok (.istore_n 1, 1) := by decide +kernel
theorem dX2_bestSquare_89 : decode cX2_bestSquare 89 = .ok (.iload 5, 2) := by decide +kernel
theorem dX2_bestSquare_91 : decode cX2_bestSquare 91 = .ok (.istore_n 2, 1) := by decide +kernel
theorem dX2_bestSquare_92 : decode cX2_bestSquare 92 = .ok (.aload_n 0, 1) := by decide +kernel
theorem dX2_bestSquare_93 : decode cX2_bestSquare 93 = .ok (.getfield 18, 3) := by decide +kernel
theorem dX2_bestSquare_96 : decode cX2_bestSquare 96 = .ok (.iload 4, 2) := by decide +kernel
theorem dX2_bestSquare_98 : decode cX2_bestSquare 98 = .ok (.iaload, 1) := by decide +kernel
theorem dX2_bestSquare_99 : decode cX2_bestSquare 99 = .ok (.istore_n 3, 1) := by decide +kernel
theorem dX2_bestSquare_100 : decode cX2_bestSquare 100 = .ok (.iinc 4 1, 3) := by decide +kernel
theorem dX2_bestSquare_103 : decode cX2_bestSquare 103 = .ok (.goto (-94), 3) := by decide +kernel
theorem dX2_bestSquare_106 : decode cX2_bestSquare 106 = .ok (.iload_n 1, 1) := by decide +kernel
theorem dX2_bestSquare_107 : decode cX2_bestSquare 107 = .ok (.ireturn, 1) := by decide +kernel
set_option maxHeartbeats 2000000 in
set_option maxRecDepth 20000 in
theorem cc_gbest {l : Launch} {E : Ev} {P : Value → AH → Prop}  {k al le gr lw : Nat} {sp to : Int32} {h : AH} (hk : h k = some (.inr (2, [.ref al, .ref le, .ref gr, .ref lw, .int sp, .int to]))) {d n : Nat} {mc : Int32} (he : h al = some (.inr (0, [.int mc, .ref d, .int (nI n)]))) {N : Nat} {f : Nat → Option Nat} (hd : n ≠ 0 → h d = some (eQ E N f)) (hnN : n ≤ N) (hN : N ≤ 100) {A : Nat → Nat → Int32} {pa : Nat → Nat} (hpa : cpits h A f pa n) {Lf Gf : Nat → Int32} (hl : h le = some (.inl (E.2.2 1, 96, .inl Lf))) (hg : h gr = some (.inl (E.2.2 1, 96, .inl Gf))) {ap fd bo : Int32} (hlw : h lw = some (.inr (3, [.int ap, .int fd, .int bo]))) (hp : P (.int (cbst Lf Gf A ap n 96).1) h) : Mt l E yX2_bestSquare cX2_bestSquare 7 (some .int) 4 87 0 0 [.ref k] (h) P := by
  refine Mt.of (by decide) (Nat.le_of_ble_eq_true rfl) ?_
  intro K hK hR C
  refine g_iconst (n := 1) (v := (-1)) C dX2_bestSquare_0 rfl (by decide) ?_
  refine g_istore_n (n := 2) C dX2_bestSquare_1 rfl (by decide) ?_
  refine g_iconst (n := 3) (v := (-1)) C dX2_bestSquare_2 rfl (by decide) ?_
  refine g_istore_n (n := 4) C dX2_bestSquare_3 rfl (by decide) ?_
  refine g_iconst (n := 5) (v := (-1)) C dX2_bestSquare_4 rfl (by decide) ?_
  refine g_istore_n (n := 6) C dX2_bestSquare_5 rfl (by decide) ?_
  refine g_iconst (n := 7) (v := 0) C dX2_bestSquare_6 rfl (by decide) ?_
  refine g_istore (n := 9) C dX2_bestSquare_7 rfl (by decide) ?_
  have lp : ∀ p : Nat, p ≤ 96 → ∀ (x1 x2 x3 t9 : Int32), (x1, x2, x3) = cbst Lf Gf A ap n p → t9 = nI p → G K E 7 (QM K E (some .int) 0 0 P) 0 0 9 [(0, .ref k), (1, .int x1), (2, .int x2), (3, .int x3), (4, .int t9)] [] (h) := by
    refine loopN (fun p => ∀ (x1 x2 x3 t9 : Int32), (x1, x2, x3) = cbst Lf Gf A ap n p → t9 = nI p → G K E 7 (QM K E (some .int) 0 0 P) 0 0 9 [(0, .ref k), (1, .int x1), (2, .int x2), (3, .int x3), (4, .int t9)] [] (h)) (96) ?_
    intro p hlep ihp x1 x2 x3 t9 ez et
    subst et
    refine g_iload (n := 11) C dX2_bestSquare_9 rfl rfl ?_
    refine g_bipush (n := 13) (v := 96) C dX2_bestSquare_11 rfl (by decide) ?_
    refine g_icmp_ge (n := 16) (t := 106) C dX2_bestSquare_13 rfl (by decide) (fun zc13 => ?_) (fun zc13 => ?_)
    · --t13
      refine g_iload_n (n := 107) C dX2_bestSquare_106 rfl rfl ?_
      refine g_iret C dX2_bestSquare_107 (by decide) (by decide) ?_
      have ep : p = 96 := i_eq (n := 96) rfl zc13 hlep (by decide)
      subst ep
      rw [← ez] at hp
      exact hp
    · --f13
      refine g_aload_n (n := 17) C dX2_bestSquare_16 rfl rfl ?_
      refine g_get (n := 20) (T := TX2) C 1 dX2_bestSquare_17 rfl hk rfl rfl (by decide) inX2 w_147 rfl ?_
      refine g_iload (n := 22) C dX2_bestSquare_20 rfl rfl ?_
      refine f_iald (n := 23) (p) C dX2_bestSquare_22 rfl hl rfl (i_lt (n := 96) rfl zc13 hlep (by decide)) (by decide) (rfl) ?_
      refine g_aload_n (n := 24) C dX2_bestSquare_23 rfl rfl ?_
      refine g_get (n := 27) (T := TX2) C 2 dX2_bestSquare_24 rfl hk rfl rfl (by decide) inX2 w_148 rfl ?_
      refine g_iload (n := 29) C dX2_bestSquare_27 rfl rfl ?_
      refine f_iald (n := 30) (p) C dX2_bestSquare_29 rfl hg rfl (i_lt (n := 96) rfl zc13 hlep (by decide)) (by decide) (rfl) ?_
      refine g_iadd (n := 31) C dX2_bestSquare_30 rfl ?_
      refine g_istore (n := 33) C dX2_bestSquare_31 rfl (by decide) ?_
      refine g_iload (n := 35) C dX2_bestSquare_33 rfl rfl ?_
      refine g_iload_n (n := 36) C dX2_bestSquare_35 rfl rfl ?_
      refine g_icmp_gt (n := 39) (t := 56) C dX2_bestSquare_36 rfl (by decide) (fun zc36 => ?_) (fun zc36 => ?_)
      · --t36
        refine g_iconst (n := 57) (v := 1) C dX2_bestSquare_56 rfl (by decide) ?_
        refine g_goto (t := 61) C dX2_bestSquare_57 (by decide) ?_
        refine g_istore (n := 63) C dX2_bestSquare_61 rfl (by decide) ?_
        refine g_iload (n := 65) C dX2_bestSquare_63 rfl rfl ?_
        refine g_if_eq (n := 68) (t := 100) C dX2_bestSquare_65 rfl (by decide) (fun zc65 => ?_) (fun zc65 => ?_)
        · exact absurd zc65 (by decide)
        refine g_aload_n (n := 69) C dX2_bestSquare_68 rfl rfl ?_
        refine g_iload (n := 71) C dX2_bestSquare_69 rfl rfl ?_
        refine g_callV (n := 74) (As := [.int _]) C dX2_bestSquare_71 rfl mw_X2_hasSpan w_286 (g_recv C hk rfl) rfl rfl (room hR rfl) (cc_gspan hk hl hg (i_lt (n := 96) rfl zc13 hlep (by decide)) (fun za71 => ?_) (fun zb71 => ?_))
        · --k71.0
          refine g_if_eq (n := 77) (t := 100) C dX2_bestSquare_74 rfl (by decide) (fun zc74 => ?_) (fun zc74 => ?_)
          · exact absurd zc74 (by decide)
          refine g_aload_n (n := 78) C dX2_bestSquare_77 rfl rfl ?_
          refine g_iload (n := 80) C dX2_bestSquare_78 rfl rfl ?_
          refine g_callV (n := 83) (As := [.int _]) C dX2_bestSquare_80 rfl mw_X2_maySink w_290 (g_recv C hk rfl) rfl rfl (room hR rfl) (cc_gmay hk he hd hnN hN hpa hlw (fun za80 => ?_) (fun zb80 => ?_))
          · --k80.0
            refine g_if_eq (n := 86) (t := 100) C dX2_bestSquare_83 rfl (by decide) (fun zc83 => ?_) (fun zc83 => ?_)
            · exact absurd zc83 (by decide)
            refine g_iload (n := 88) C dX2_bestSquare_86 rfl rfl ?_
            refine g_istore_n (n := 89) C dX2_bestSquare_88 rfl (by decide) ?_
            refine g_iload (n := 91) C dX2_bestSquare_89 rfl rfl ?_
            refine g_istore_n (n := 92) C dX2_bestSquare_91 rfl (by decide) ?_
            refine g_aload_n (n := 93) C dX2_bestSquare_92 rfl rfl ?_
            refine g_get (n := 96) (T := TX2) C 1 dX2_bestSquare_93 rfl hk rfl rfl (by decide) inX2 w_147 rfl ?_
            refine g_iload (n := 98) C dX2_bestSquare_96 rfl rfl ?_
            refine f_iald (n := 99) (p) C dX2_bestSquare_98 rfl hl rfl (i_lt (n := 96) rfl zc13 hlep (by decide)) (by decide) (rfl) ?_
            refine g_istore_n (n := 100) C dX2_bestSquare_99 rfl (by decide) ?_
            refine g_iinc (n := 103) C dX2_bestSquare_100 rfl rfl rfl (by decide) ?_
            refine g_goto (t := 9) C dX2_bestSquare_103 (by decide) ?_
            exact g_lv [0, 1, 2, 3, 4] rfl (ihp (i_lt (n := 96) rfl zc13 hlep (by decide)) _ _ _ _ (by first | exact cbst_t ez ⟨Or.inl zc36, za71, za80⟩ | exact cbst_t ez ⟨Or.inr ⟨zc42, Int32.not_le.mp zc53⟩, za71, za80⟩ | exact cbst_k ez (fun z => z.1.elim zc36 (fun y => zc42 y.1)) | exact cbst_k ez (fun z => z.1.elim zc36 (fun y => Int32.not_le.mpr y.2 zc53)) | exact cbst_k ez (fun z => zb71 z.2.1) | exact cbst_k ez (fun z => zb80 z.2.2)) (nI_1 p))
          · --k80.1
            refine g_if_eq (n := 86) (t := 100) C dX2_bestSquare_83 rfl (by decide) (fun zc83 => ?_) (fun zc83 => ?_)
            rotate_left
            · exact absurd zc83 (by decide)
            refine g_iinc (n := 103) C dX2_bestSquare_100 rfl rfl rfl (by decide) ?_
            refine g_goto (t := 9) C dX2_bestSquare_103 (by decide) ?_
            exact g_lv [0, 1, 2, 3, 4] rfl (ihp (i_lt (n := 96) rfl zc13 hlep (by decide)) _ _ _ _ (by first | exact cbst_t ez ⟨Or.inl zc36, za71, za80⟩ | exact cbst_t ez ⟨Or.inr ⟨zc42, Int32.not_le.mp zc53⟩, za71, za80⟩ | exact cbst_k ez (fun z => z.1.elim zc36 (fun y => zc42 y.1)) | exact cbst_k ez (fun z => z.1.elim zc36 (fun y => Int32.not_le.mpr y.2 zc53)) | exact cbst_k ez (fun z => zb71 z.2.1) | exact cbst_k ez (fun z => zb80 z.2.2)) (nI_1 p))
        · --k71.1
          refine g_if_eq (n := 77) (t := 100) C dX2_bestSquare_74 rfl (by decide) (fun zc74 => ?_) (fun zc74 => ?_)
          rotate_left
          · exact absurd zc74 (by decide)
          refine g_iinc (n := 103) C dX2_bestSquare_100 rfl rfl rfl (by decide) ?_
          refine g_goto (t := 9) C dX2_bestSquare_103 (by decide) ?_
          exact g_lv [0, 1, 2, 3, 4] rfl (ihp (i_lt (n := 96) rfl zc13 hlep (by decide)) _ _ _ _ (by first | exact cbst_t ez ⟨Or.inl zc36, za71, za80⟩ | exact cbst_t ez ⟨Or.inr ⟨zc42, Int32.not_le.mp zc53⟩, za71, za80⟩ | exact cbst_k ez (fun z => z.1.elim zc36 (fun y => zc42 y.1)) | exact cbst_k ez (fun z => z.1.elim zc36 (fun y => Int32.not_le.mpr y.2 zc53)) | exact cbst_k ez (fun z => zb71 z.2.1) | exact cbst_k ez (fun z => zb80 z.2.2)) (nI_1 p))
      · --f36
        refine g_iload (n := 41) C dX2_bestSquare_39 rfl rfl ?_
        refine g_iload_n (n := 42) C dX2_bestSquare_41 rfl rfl ?_
        refine g_icmp_ne (n := 45) (t := 60) C dX2_bestSquare_42 rfl (by decide) (fun zc42 => ?_) (fun zc42 => ?_)
        · --t42
          refine g_iconst (n := 61) (v := 0) C dX2_bestSquare_60 rfl (by decide) ?_
          refine g_istore (n := 63) C dX2_bestSquare_61 rfl (by decide) ?_
          refine g_iload (n := 65) C dX2_bestSquare_63 rfl rfl ?_
          refine g_if_eq (n := 68) (t := 100) C dX2_bestSquare_65 rfl (by decide) (fun zc65 => ?_) (fun zc65 => ?_)
          rotate_left
          · exact absurd zc65 (by decide)
          refine g_iinc (n := 103) C dX2_bestSquare_100 rfl rfl rfl (by decide) ?_
          refine g_goto (t := 9) C dX2_bestSquare_103 (by decide) ?_
          exact g_lv [0, 1, 2, 3, 4] rfl (ihp (i_lt (n := 96) rfl zc13 hlep (by decide)) _ _ _ _ (by first | exact cbst_t ez ⟨Or.inl zc36, za71, za80⟩ | exact cbst_t ez ⟨Or.inr ⟨zc42, Int32.not_le.mp zc53⟩, za71, za80⟩ | exact cbst_k ez (fun z => z.1.elim zc36 (fun y => zc42 y.1)) | exact cbst_k ez (fun z => z.1.elim zc36 (fun y => Int32.not_le.mpr y.2 zc53)) | exact cbst_k ez (fun z => zb71 z.2.1) | exact cbst_k ez (fun z => zb80 z.2.2)) (nI_1 p))
        · --f42
          refine g_aload_n (n := 46) C dX2_bestSquare_45 rfl rfl ?_
          refine g_get (n := 49) (T := TX2) C 1 dX2_bestSquare_46 rfl hk rfl rfl (by decide) inX2 w_147 rfl ?_
          refine g_iload (n := 51) C dX2_bestSquare_49 rfl rfl ?_
          refine f_iald (n := 52) (p) C dX2_bestSquare_51 rfl hl rfl (i_lt (n := 96) rfl zc13 hlep (by decide)) (by decide) (rfl) ?_
          refine g_iload_n (n := 53) C dX2_bestSquare_52 rfl rfl ?_
          refine g_icmp_le (n := 56) (t := 60) C dX2_bestSquare_53 rfl (by decide) (fun zc53 => ?_) (fun zc53 => ?_)
          · --t53
            refine g_iconst (n := 61) (v := 0) C dX2_bestSquare_60 rfl (by decide) ?_
            refine g_istore (n := 63) C dX2_bestSquare_61 rfl (by decide) ?_
            refine g_iload (n := 65) C dX2_bestSquare_63 rfl rfl ?_
            refine g_if_eq (n := 68) (t := 100) C dX2_bestSquare_65 rfl (by decide) (fun zc65 => ?_) (fun zc65 => ?_)
            rotate_left
            · exact absurd zc65 (by decide)
            refine g_iinc (n := 103) C dX2_bestSquare_100 rfl rfl rfl (by decide) ?_
            refine g_goto (t := 9) C dX2_bestSquare_103 (by decide) ?_
            exact g_lv [0, 1, 2, 3, 4] rfl (ihp (i_lt (n := 96) rfl zc13 hlep (by decide)) _ _ _ _ (by first | exact cbst_t ez ⟨Or.inl zc36, za71, za80⟩ | exact cbst_t ez ⟨Or.inr ⟨zc42, Int32.not_le.mp zc53⟩, za71, za80⟩ | exact cbst_k ez (fun z => z.1.elim zc36 (fun y => zc42 y.1)) | exact cbst_k ez (fun z => z.1.elim zc36 (fun y => Int32.not_le.mpr y.2 zc53)) | exact cbst_k ez (fun z => zb71 z.2.1) | exact cbst_k ez (fun z => zb80 z.2.2)) (nI_1 p))
          · --f53
            refine g_iconst (n := 57) (v := 1) C dX2_bestSquare_56 rfl (by decide) ?_
            refine g_goto (t := 61) C dX2_bestSquare_57 (by decide) ?_
            refine g_istore (n := 63) C dX2_bestSquare_61 rfl (by decide) ?_
            refine g_iload (n := 65) C dX2_bestSquare_63 rfl rfl ?_
            refine g_if_eq (n := 68) (t := 100) C dX2_bestSquare_65 rfl (by decide) (fun zc65 => ?_) (fun zc65 => ?_)
            · exact absurd zc65 (by decide)
            refine g_aload_n (n := 69) C dX2_bestSquare_68 rfl rfl ?_
            refine g_iload (n := 71) C dX2_bestSquare_69 rfl rfl ?_
            refine g_callV (n := 74) (As := [.int _]) C dX2_bestSquare_71 rfl mw_X2_hasSpan w_286 (g_recv C hk rfl) rfl rfl (room hR rfl) (cc_gspan hk hl hg (i_lt (n := 96) rfl zc13 hlep (by decide)) (fun za71 => ?_) (fun zb71 => ?_))
            · --k71.0
              refine g_if_eq (n := 77) (t := 100) C dX2_bestSquare_74 rfl (by decide) (fun zc74 => ?_) (fun zc74 => ?_)
              · exact absurd zc74 (by decide)
              refine g_aload_n (n := 78) C dX2_bestSquare_77 rfl rfl ?_
              refine g_iload (n := 80) C dX2_bestSquare_78 rfl rfl ?_
              refine g_callV (n := 83) (As := [.int _]) C dX2_bestSquare_80 rfl mw_X2_maySink w_290 (g_recv C hk rfl) rfl rfl (room hR rfl) (cc_gmay hk he hd hnN hN hpa hlw (fun za80 => ?_) (fun zb80 => ?_))
              · --k80.0
                refine g_if_eq (n := 86) (t := 100) C dX2_bestSquare_83 rfl (by decide) (fun zc83 => ?_) (fun zc83 => ?_)
                · exact absurd zc83 (by decide)
                refine g_iload (n := 88) C dX2_bestSquare_86 rfl rfl ?_
                refine g_istore_n (n := 89) C dX2_bestSquare_88 rfl (by decide) ?_
                refine g_iload (n := 91) C dX2_bestSquare_89 rfl rfl ?_
                refine g_istore_n (n := 92) C dX2_bestSquare_91 rfl (by decide) ?_
                refine g_aload_n (n := 93) C dX2_bestSquare_92 rfl rfl ?_
                refine g_get (n := 96) (T := TX2) C 1 dX2_bestSquare_93 rfl hk rfl rfl (by decide) inX2 w_147 rfl ?_
                refine g_iload (n := 98) C dX2_bestSquare_96 rfl rfl ?_
                refine f_iald (n := 99) (p) C dX2_bestSquare_98 rfl hl rfl (i_lt (n := 96) rfl zc13 hlep (by decide)) (by decide) (rfl) ?_
                refine g_istore_n (n := 100) C dX2_bestSquare_99 rfl (by decide) ?_
                refine g_iinc (n := 103) C dX2_bestSquare_100 rfl rfl rfl (by decide) ?_
                refine g_goto (t := 9) C dX2_bestSquare_103 (by decide) ?_
                exact g_lv [0, 1, 2, 3, 4] rfl (ihp (i_lt (n := 96) rfl zc13 hlep (by decide)) _ _ _ _ (by first | exact cbst_t ez ⟨Or.inl zc36, za71, za80⟩ | exact cbst_t ez ⟨Or.inr ⟨zc42, Int32.not_le.mp zc53⟩, za71, za80⟩ | exact cbst_k ez (fun z => z.1.elim zc36 (fun y => zc42 y.1)) | exact cbst_k ez (fun z => z.1.elim zc36 (fun y => Int32.not_le.mpr y.2 zc53)) | exact cbst_k ez (fun z => zb71 z.2.1) | exact cbst_k ez (fun z => zb80 z.2.2)) (nI_1 p))
              · --k80.1
                refine g_if_eq (n := 86) (t := 100) C dX2_bestSquare_83 rfl (by decide) (fun zc83 => ?_) (fun zc83 => ?_)
                rotate_left
                · exact absurd zc83 (by decide)
                refine g_iinc (n := 103) C dX2_bestSquare_100 rfl rfl rfl (by decide) ?_
                refine g_goto (t := 9) C dX2_bestSquare_103 (by decide) ?_
                exact g_lv [0, 1, 2, 3, 4] rfl (ihp (i_lt (n := 96) rfl zc13 hlep (by decide)) _ _ _ _ (by first | exact cbst_t ez ⟨Or.inl zc36, za71, za80⟩ | exact cbst_t ez ⟨Or.inr ⟨zc42, Int32.not_le.mp zc53⟩, za71, za80⟩ | exact cbst_k ez (fun z => z.1.elim zc36 (fun y => zc42 y.1)) | exact cbst_k ez (fun z => z.1.elim zc36 (fun y => Int32.not_le.mpr y.2 zc53)) | exact cbst_k ez (fun z => zb71 z.2.1) | exact cbst_k ez (fun z => zb80 z.2.2)) (nI_1 p))
            · --k71.1
              refine g_if_eq (n := 77) (t := 100) C dX2_bestSquare_74 rfl (by decide) (fun zc74 => ?_) (fun zc74 => ?_)
              rotate_left
              · exact absurd zc74 (by decide)
              refine g_iinc (n := 103) C dX2_bestSquare_100 rfl rfl rfl (by decide) ?_
              refine g_goto (t := 9) C dX2_bestSquare_103 (by decide) ?_
              exact g_lv [0, 1, 2, 3, 4] rfl (ihp (i_lt (n := 96) rfl zc13 hlep (by decide)) _ _ _ _ (by first | exact cbst_t ez ⟨Or.inl zc36, za71, za80⟩ | exact cbst_t ez ⟨Or.inr ⟨zc42, Int32.not_le.mp zc53⟩, za71, za80⟩ | exact cbst_k ez (fun z => z.1.elim zc36 (fun y => zc42 y.1)) | exact cbst_k ez (fun z => z.1.elim zc36 (fun y => Int32.not_le.mpr y.2 zc53)) | exact cbst_k ez (fun z => zb71 z.2.1) | exact cbst_k ez (fun z => zb80 z.2.2)) (nI_1 p))
  exact g_lv [0, 1, 2, 3, 4] rfl (lp 0 (Nat.zero_le _) _ _ _ _ rfl rfl)
