/-- best(): what the scan of the first s squares keeps: the square (or -1), its sum -/
def rskip (t : Int32) (A : Nat → Nat → Int32) (n : Nat) (b sm s : Int32) : Prop := rhigh t A s n < rlow t A s n ∨ ¬ rmay A s n ∨ (¬ b < 0 ∧ (rlow t A s n + rhigh t A s n < sm ∨ (rlow t A s n + rhigh t A s n = sm ∧ rlow t A s n ≤ rlow t A b n)))
noncomputable def rbst (t : Int32) (A : Nat → Nat → Int32) (n : Nat) : Nat → Int32 × Int32
  | 0 => (-1, 0)
  | s + 1 => @ite _ (rskip t A n (rbst t A n s).1 (rbst t A n s).2 (nI s)) (Classical.propDecidable _) (rbst t A n s) (nI s, rlow t A (nI s) n + rhigh t A (nI s) n)
theorem rbst_skip {t : Int32} {A : Nat → Nat → Int32} {n s : Nat} {b sm : Int32} (e : (b, sm) = rbst t A n s) (h : rskip t A n b sm (nI s)) : (b, sm) = rbst t A n (s + 1) := by
  unfold rbst
  rw [← e]
  exact (if_pos h).symm
theorem rbst_take {t : Int32} {A : Nat → Nat → Int32} {n s : Nat} {b sm : Int32} (e : (b, sm) = rbst t A n s) (h : ¬ rskip t A n b sm (nI s)) : (nI s, rlow t A (nI s) n + rhigh t A (nI s) n) = rbst t A n (s + 1) := by
  unfold rbst
  rw [← e]
  exact (if_neg h).symm
theorem rbst_take2 {t : Int32} {A : Nat → Nat → Int32} {n s : Nat} {b sm : Int32} (e : (b, sm) = rbst t A n s) (h1 : ¬ rhigh t A (nI s) n < rlow t A (nI s) n) (h2 : rmay A (nI s) n) (h3 : b < 0 ∨ (¬ rlow t A (nI s) n + rhigh t A (nI s) n < sm ∧ (¬ rlow t A (nI s) n + rhigh t A (nI s) n = sm ∨ rlow t A b n < rlow t A (nI s) n))) : (nI s, rlow t A (nI s) n + rhigh t A (nI s) n) = rbst t A n (s + 1) := by
  refine rbst_take e ?_
  rintro (k | k | ⟨k, k2⟩)
  · exact h1 k
  · exact k h2
  · rcases h3 with k3 | ⟨k3, k4⟩
    · exact k k3
    · rcases k2 with k2 | ⟨k2, k5⟩
      · exact k3 k2
      · rcases k4 with k4 | k4
        · exact k4 k2
        · exact absurd k5 (Int32.not_le.mpr k4)
def rbond (F : Nat → Int32) (A : Nat → Nat → Int32) (p : Nat) : Int32 := if A 8 p = 0 then 0 else if A 7 p < (if A 6 p < 0 then F 1 else A 6 p) then 2 else if A 6 p < 0 then 1 else 0
theorem ix10 {x : Int32} {m : Nat} (hx : x = nI m) (c : Nat) : 10 * x + nI c = nI (10 * m + c) := by rw [hx, ← nI_add, ← pk_mul]; rfl
theorem ix6 {x : Int32} {m : Nat} (hx : x = nI m) (c : Nat) : 6 * x + nI c = nI (6 * m + c) := by rw [hx, ← nI_add, ← pk_mul]; rfl
theorem ix10z {x : Int32} {m : Nat} (hx : x = nI m) : 10 * x = nI (10 * m) := by rw [hx, ← pk_mul]; rfl
theorem rng_of {x M : Int32} (k : Nat) (hM : M.toInt = k) (h0 : ¬ x < 0) (h1 : ¬ M < x) : ∃ j : Nat, j < k + 1 ∧ x = nI j := by
  obtain ⟨j, hj, e⟩ := nI_of2 hM h0 (Int32.not_lt.mp h1)
  exact ⟨j, by omega, e⟩
theorem dX11_best_0 : decode cX11_best 0 = .ok (.aload_n 0, 1) := by decide +kernel
theorem dX11_best_1 : decode cX11_best 1 = .ok (.iconst 0, 1) := by decide +kernel
theorem dX11_best_2 : decode cX11_best 2 = .ok (.putfield 76, 3) := by decide +kernel
theorem dX11_best_5 : decode cX11_best 5 = .ok (.iconst (-1), 1) := by decide +kernel
theorem dX11_best_6 : decode cX11_best 6 = .ok (.istore_n 1, 1) := by decide +kernel
theorem dX11_best_7 : decode cX11_best 7 = .ok (.iconst 0, 1) := by decide +kernel
theorem dX11_best_8 : decode cX11_best 8 = .ok (.istore_n 2, 1) := by decide +kernel
theorem dX11_best_9 : decode cX11_best 9 = .ok (.iconst 0, 1) := by decide +kernel
theorem dX11_best_10 : decode cX11_best 10 = .ok (.istore_n 3, 1) := by decide +kernel
theorem dX11_best_11 : decode cX11_best 11 = .ok (.iload_n 3, 1) := by decide +kernel
theorem dX11_best_12 : decode cX11_best 12 = .ok (.bipush 96, 2) := by decide +kernel
theorem dX11_best_14 : decode cX11_best 14 = .ok (.if_icmp .ge 81, 3) := by decide +kernel
theorem dX11_best_17 : decode cX11_best 17 = .ok (.aload_n 0, 1) := by decide +kernel
theorem dX11_best_18 : decode cX11_best 18 = .ok (.iload_n 3, 1) := by decide +kernel
theorem dX11_best_19 : decode cX11_best 19 = .ok (.invokevirtual 198, 3) := by decide +kernel
theorem dX11_best_22 : decode cX11_best 22 = .ok (.istore 4, 2) := by decide +kernel
theorem dX11_best_24 : decode cX11_best 24 = .ok (.aload_n 0, 1) := by decide +kernel
theorem dX11_best_25 : decode cX11_best 25 = .ok (.iload_n 3, 1) := by decide +kernel
theorem dX11_best_26 : decode cX11_best 26 = .ok (.invokevirtual 201, 3) := by decide +kernel
theorem dX11_best_29 : decode cX11_best 29 = .ok (.istore 5, 2) := by decide +kernel
theorem dX11_best_31 : decode cX11_best 31 = .ok (.iload 4, 2) := by decide +kernel
theorem dX11_best_33 : decode cX11_best 33 = .ok (.iload 5, 2) := by decide +kernel
theorem dX11_best_35 : decode cX11_best 35 = .ok (.if_icmp .gt 54, 3) := by decide +kernel
theorem dX11_best_38 : decode cX11_best 38 = .ok (.aload_n 0, 1) := by decide +kernel
theorem dX11_best_39 : decode cX11_best 39 = .ok (.iload_n 3, 1) := by decide +kernel
theorem dX11_best_40 : decode cX11_best 40 = .ok (.invokevirtual 186, 3) := by decide +kernel
theorem dX11_best_43 : decode cX11_best 43 = .ok (.ifCond .eq 46, 3) := by decide +kernel
theorem dX11_best_46 : decode cX11_best 46 = .ok (.iload_n 1, 1) := by decide +kernel
theorem dX11_best_47 : decode cX11_best 47 = .ok (.ifCond .lt 34, 3) := by decide +kernel
theorem dX11_best_50 : decode cX11_best 50 = .ok (.iload 4, 2) := by decide +kernel
theorem dX11_best_52 : decode cX11_best 52 = .ok (.iload 5, 2) := by decide +kernel
theorem dX11_best_54 : decode cX11_best 54 = .ok (.iadd, 1) := by decide +kernel
theorem dX11_best_55 : decode cX11_best 55 = .ok (.iload_n 2, 1) := by decide +kernel
theorem dX11_best_56 : decode cX11_best 56 = .ok (.if_icmp .lt 33, 3) := by decide +kernel
theorem dX11_best_59 : decode cX11_best 59 = .ok (.iload 4, 2) := by decide +kernel
theorem dX11_best_61 : decode cX11_best 61 = .ok (.iload 5, 2) := by decide +kernel
theorem dX11_best_63 : decode cX11_best 63 = .ok (.iadd, 1) := by decide +kernel
theorem dX11_best_64 : decode cX11_best 64 = .ok (.iload_n 2, 1) := by decide +kernel
theorem dX11_best_65 : decode cX11_best 65 = .ok (.if_icmp .ne 16, 3) := by decide +kernel
theorem dX11_best_68 : decode cX11_best 68 = .ok (.iload 4, 2) := by decide +kernel
theorem dX11_best_70 : decode cX11_best 70 = .ok (.aload_n 0, 1) := by decide +kernel
theorem dX11_best_71 : decode cX11_best 71 = .ok (.iload_n 1, 1) := by decide +kernel
theorem dX11_best_72 : decode cX11_best 72 = .ok (.invokevirtual 198, 3) := by decide +kernel
theorem dX11_best_75 : decode cX11_best 75 = .ok (.if_icmp .gt 6, 3) := by decide +kernel
theorem dX11_best_78 : decode cX11_best 78 = .ok (.goto 11, 3) := by decide +kernel
theorem dX11_best_81 : decode cX11_best 81 = .ok (.iload_n 3, 1) := by decide +kernel
theorem dX11_best_82 : decode cX11_best 82 = .ok (.istore_n 1, 1) := by decide +kernel
theorem dX11_best_83 : decode cX11_best 83 = .ok (.iload 4, 2) := by decide +kernel
theorem dX11_best_85 : decode cX11_best 85 = .ok (.iload 5, 2) := by decide +kernel
theorem dX11_best_87 : decode cX11_best 87 = .ok (.iadd, 1) := by decide +kernel
theorem dX11_best_88 : decode cX11_best 88 = .ok (.istore_n 2, 1) := by decide +kernel
theorem dX11_best_89 : decode cX11_best 89 = .ok (.iinc 3 1, 3) := by decide +kernel
theorem dX11_best_92 : decode cX11_best 92 = .ok (.goto (-81), 3) := by decide +kernel
theorem dX11_best_95 : decode cX11_best 95 = .ok (.iload_n 1, 1) := by decide +kernel
theorem dX11_best_96 : decode cX11_best 96 = .ok (.ireturn, 1) := by decide +kernel
set_option maxHeartbeats 1000000 in
set_option maxRecDepth 20000 in
theorem ct_best {l : Launch} {E : Ev} {P : Value → AH → Prop} {o : Nat} {ad : Nat → Nat} {F : Nat → Int32} {A : Nat → Nat → Int32} {h : AH} (I : mI o ad) {n : Nat} (hn : F 9 = nI n) (hn3 : n ≤ 30) (hp : P (.int (rbst (F 2) A n 96).1) (mh E o ad (upd F 0 0) A h)) : Mt l E yX11_best cX11_best 6 (some .int) 6 133 0 0 [.ref o] (mh E o ad F A h) P := by
  refine Mt.of (by decide) (Nat.le_of_ble_eq_true rfl) ?_
  intro K hK hR C
  refine g_aload_n (n := 1) C dX11_best_0 rfl rfl ?_
  refine g_iconst (n := 2) (v := 0) C dX11_best_1 rfl (by decide) ?_
  refine m_put (n := 5) 0 C dX11_best_2 rfl (by decide) w_1100 rfl rfl rfl mfs_0 ?_
  refine g_iconst (n := 6) (v := (-1)) C dX11_best_5 rfl (by decide) ?_
  refine g_istore_n (n := 7) C dX11_best_6 rfl (by decide) ?_
  refine g_iconst (n := 8) (v := 0) C dX11_best_7 rfl (by decide) ?_
  refine g_istore_n (n := 9) C dX11_best_8 rfl (by decide) ?_
  refine g_iconst (n := 10) (v := 0) C dX11_best_9 rfl (by decide) ?_
  refine g_istore_n (n := 11) C dX11_best_10 rfl (by decide) ?_
  have lp : ∀ p : Nat, p ≤ 96 → ∀ (b sm x : Int32), (b, sm) = rbst (F 2) A n p → x = nI p → G K E 6 (QM K E (some .int) 0 0 P) 0 0 11 [(0, .ref o), (1, .int b), (2, .int sm), (3, .int x)] [] (mh E o ad (upd F 0 0) A h) := by
    refine loopN (fun p => ∀ (b sm x : Int32), (b, sm) = rbst (F 2) A n p → x = nI p → G K E 6 (QM K E (some .int) 0 0 P) 0 0 11 [(0, .ref o), (1, .int b), (2, .int sm), (3, .int x)] [] (mh E o ad (upd F 0 0) A h)) (96) ?_
    intro p hlep ihp b sm x eb ex
    subst ex
    refine g_iload_n (n := 12) C dX11_best_11 rfl rfl ?_
    refine g_bipush (n := 14) (v := 96) C dX11_best_12 rfl (by decide) ?_
    refine g_icmp_ge (n := 17) (t := 95) C dX11_best_14 rfl (by decide) (fun zc14 => ?_) (fun zc14 => ?_)
    · --t14
      refine g_iload_n (n := 96) C dX11_best_95 rfl rfl ?_
      refine g_iret C dX11_best_96 (by decide) (by decide) ?_
      have e : p = 96 := i_eq (n := 96) rfl zc14 hlep (by decide)
      subst e
      rw [← eb] at hp
      exact hp
    · --f14
      refine g_aload_n (n := 18) C dX11_best_17 rfl rfl ?_
      refine g_iload_n (n := 19) C dX11_best_18 rfl rfl ?_
      refine g_callV (n := 22) (As := [.int _]) C dX11_best_19 rfl mw_X11_low w_1313 (g_recv C mh_o rfl) rfl rfl (room hR rfl) (ct_low I hn hn3 ?_)
      refine g_istore (n := 24) C dX11_best_22 rfl (by decide) ?_
      refine g_aload_n (n := 25) C dX11_best_24 rfl rfl ?_
      refine g_iload_n (n := 26) C dX11_best_25 rfl rfl ?_
      refine g_callV (n := 29) (As := [.int _]) C dX11_best_26 rfl mw_X11_high w_1317 (g_recv C mh_o rfl) rfl rfl (room hR rfl) (ct_high I hn hn3 ?_)
      refine g_istore (n := 31) C dX11_best_29 rfl (by decide) ?_
      refine g_iload (n := 33) C dX11_best_31 rfl rfl ?_
      refine g_iload (n := 35) C dX11_best_33 rfl rfl ?_
      refine g_icmp_gt (n := 38) (t := 89) C dX11_best_35 rfl (by decide) (fun zc35 => ?_) (fun zc35 => ?_)
      · --t35
        refine g_iinc (n := 92) C dX11_best_89 rfl rfl rfl (by decide) ?_
        refine g_goto (t := 11) C dX11_best_92 (by decide) ?_
        exact g_lv [0, 1, 2, 3] rfl (ihp (i_lt (n := 96) rfl zc14 hlep (by decide)) _ _ _ (by first | exact rbst_skip eb (Or.inl (by assumption)) | exact rbst_skip eb (Or.inr (Or.inl (by assumption))) | exact rbst_skip eb (Or.inr (Or.inr ⟨by assumption, Or.inl (by assumption)⟩)) | exact rbst_skip eb (Or.inr (Or.inr ⟨by assumption, Or.inr ⟨by assumption, Int32.not_lt.mp (by assumption)⟩⟩)) | exact rbst_take2 eb (by assumption) (by assumption) (Or.inl (by assumption)) | exact rbst_take2 eb (by assumption) (by assumption) (Or.inr ⟨by assumption, Or.inl (by assumption)⟩) | exact rbst_take2 eb (by assumption) (by assumption) (Or.inr ⟨by assumption, Or.inr (by assumption)⟩)) (nI_1 p))
      · --f35
        refine g_aload_n (n := 39) C dX11_best_38 rfl rfl ?_
        refine g_iload_n (n := 40) C dX11_best_39 rfl rfl ?_
        refine g_callV (n := 43) (As := [.int _]) C dX11_best_40 rfl mw_X11_mayBeSunk w_1283 (g_recv C mh_o rfl) rfl rfl (room hR rfl) (ct_may I hn hn3 (fun za40 => ?_) (fun za40 => ?_))
        · --k40.0
          refine g_if_eq (n := 46) (t := 89) C dX11_best_43 rfl (by decide) (fun zc43 => ?_) (fun zc43 => ?_)
          · exact absurd zc43 (by decide)
          refine g_iload_n (n := 47) C dX11_best_46 rfl rfl ?_
          refine g_if_lt (n := 50) (t := 81) C dX11_best_47 rfl (by decide) (fun zc47 => ?_) (fun zc47 => ?_)
          · --t47
            refine g_iload_n (n := 82) C dX11_best_81 rfl rfl ?_
            refine g_istore_n (n := 83) C dX11_best_82 rfl (by decide) ?_
            refine g_iload (n := 85) C dX11_best_83 rfl rfl ?_
            refine g_iload (n := 87) C dX11_best_85 rfl rfl ?_
            refine g_iadd (n := 88) C dX11_best_87 rfl ?_
            refine g_istore_n (n := 89) C dX11_best_88 rfl (by decide) ?_
            refine g_iinc (n := 92) C dX11_best_89 rfl rfl rfl (by decide) ?_
            refine g_goto (t := 11) C dX11_best_92 (by decide) ?_
            exact g_lv [0, 1, 2, 3] rfl (ihp (i_lt (n := 96) rfl zc14 hlep (by decide)) _ _ _ (by first | exact rbst_skip eb (Or.inl (by assumption)) | exact rbst_skip eb (Or.inr (Or.inl (by assumption))) | exact rbst_skip eb (Or.inr (Or.inr ⟨by assumption, Or.inl (by assumption)⟩)) | exact rbst_skip eb (Or.inr (Or.inr ⟨by assumption, Or.inr ⟨by assumption, Int32.not_lt.mp (by assumption)⟩⟩)) | exact rbst_take2 eb (by assumption) (by assumption) (Or.inl (by assumption)) | exact rbst_take2 eb (by assumption) (by assumption) (Or.inr ⟨by assumption, Or.inl (by assumption)⟩) | exact rbst_take2 eb (by assumption) (by assumption) (Or.inr ⟨by assumption, Or.inr (by assumption)⟩)) (nI_1 p))
          · --f47
            refine g_iload (n := 52) C dX11_best_50 rfl rfl ?_
            refine g_iload (n := 54) C dX11_best_52 rfl rfl ?_
            refine g_iadd (n := 55) C dX11_best_54 rfl ?_
            refine g_iload_n (n := 56) C dX11_best_55 rfl rfl ?_
            refine g_icmp_lt (n := 59) (t := 89) C dX11_best_56 rfl (by decide) (fun zc56 => ?_) (fun zc56 => ?_)
            · --t56
              refine g_iinc (n := 92) C dX11_best_89 rfl rfl rfl (by decide) ?_
              refine g_goto (t := 11) C dX11_best_92 (by decide) ?_
              exact g_lv [0, 1, 2, 3] rfl (ihp (i_lt (n := 96) rfl zc14 hlep (by decide)) _ _ _ (by first | exact rbst_skip eb (Or.inl (by assumption)) | exact rbst_skip eb (Or.inr (Or.inl (by assumption))) | exact rbst_skip eb (Or.inr (Or.inr ⟨by assumption, Or.inl (by assumption)⟩)) | exact rbst_skip eb (Or.inr (Or.inr ⟨by assumption, Or.inr ⟨by assumption, Int32.not_lt.mp (by assumption)⟩⟩)) | exact rbst_take2 eb (by assumption) (by assumption) (Or.inl (by assumption)) | exact rbst_take2 eb (by assumption) (by assumption) (Or.inr ⟨by assumption, Or.inl (by assumption)⟩) | exact rbst_take2 eb (by assumption) (by assumption) (Or.inr ⟨by assumption, Or.inr (by assumption)⟩)) (nI_1 p))
            · --f56
              refine g_iload (n := 61) C dX11_best_59 rfl rfl ?_
              refine g_iload (n := 63) C dX11_best_61 rfl rfl ?_
              refine g_iadd (n := 64) C dX11_best_63 rfl ?_
              refine g_iload_n (n := 65) C dX11_best_64 rfl rfl ?_
              refine g_icmp_ne (n := 68) (t := 81) C dX11_best_65 rfl (by decide) (fun zc65 => ?_) (fun zc65 => ?_)
              · --t65
                refine g_iload_n (n := 82) C dX11_best_81 rfl rfl ?_
                refine g_istore_n (n := 83) C dX11_best_82 rfl (by decide) ?_
                refine g_iload (n := 85) C dX11_best_83 rfl rfl ?_
                refine g_iload (n := 87) C dX11_best_85 rfl rfl ?_
                refine g_iadd (n := 88) C dX11_best_87 rfl ?_
                refine g_istore_n (n := 89) C dX11_best_88 rfl (by decide) ?_
                refine g_iinc (n := 92) C dX11_best_89 rfl rfl rfl (by decide) ?_
                refine g_goto (t := 11) C dX11_best_92 (by decide) ?_
                exact g_lv [0, 1, 2, 3] rfl (ihp (i_lt (n := 96) rfl zc14 hlep (by decide)) _ _ _ (by first | exact rbst_skip eb (Or.inl (by assumption)) | exact rbst_skip eb (Or.inr (Or.inl (by assumption))) | exact rbst_skip eb (Or.inr (Or.inr ⟨by assumption, Or.inl (by assumption)⟩)) | exact rbst_skip eb (Or.inr (Or.inr ⟨by assumption, Or.inr ⟨by assumption, Int32.not_lt.mp (by assumption)⟩⟩)) | exact rbst_take2 eb (by assumption) (by assumption) (Or.inl (by assumption)) | exact rbst_take2 eb (by assumption) (by assumption) (Or.inr ⟨by assumption, Or.inl (by assumption)⟩) | exact rbst_take2 eb (by assumption) (by assumption) (Or.inr ⟨by assumption, Or.inr (by assumption)⟩)) (nI_1 p))
              · --f65
                refine g_iload (n := 70) C dX11_best_68 rfl rfl ?_
                refine g_aload_n (n := 71) C dX11_best_70 rfl rfl ?_
                refine g_iload_n (n := 72) C dX11_best_71 rfl rfl ?_
                refine g_callV (n := 75) (As := [.int _]) C dX11_best_72 rfl mw_X11_low w_1313 (g_recv C mh_o rfl) rfl rfl (room hR rfl) (ct_low I hn hn3 ?_)
                refine g_icmp_gt (n := 78) (t := 81) C dX11_best_75 rfl (by decide) (fun zc75 => ?_) (fun zc75 => ?_)
                · --t75
                  refine g_iload_n (n := 82) C dX11_best_81 rfl rfl ?_
                  refine g_istore_n (n := 83) C dX11_best_82 rfl (by decide) ?_
                  refine g_iload (n := 85) C dX11_best_83 rfl rfl ?_
                  refine g_iload (n := 87) C dX11_best_85 rfl rfl ?_
                  refine g_iadd (n := 88) C dX11_best_87 rfl ?_
                  refine g_istore_n (n := 89) C dX11_best_88 rfl (by decide) ?_
                  refine g_iinc (n := 92) C dX11_best_89 rfl rfl rfl (by decide) ?_
                  refine g_goto (t := 11) C dX11_best_92 (by decide) ?_
                  exact g_lv [0, 1, 2, 3] rfl (ihp (i_lt (n := 96) rfl zc14 hlep (by decide)) _ _ _ (by first | exact rbst_skip eb (Or.inl (by assumption)) | exact rbst_skip eb (Or.inr (Or.inl (by assumption))) | exact rbst_skip eb (Or.inr (Or.inr ⟨by assumption, Or.inl (by assumption)⟩)) | exact rbst_skip eb (Or.inr (Or.inr ⟨by assumption, Or.inr ⟨by assumption, Int32.not_lt.mp (by assumption)⟩⟩)) | exact rbst_take2 eb (by assumption) (by assumption) (Or.inl (by assumption)) | exact rbst_take2 eb (by assumption) (by assumption) (Or.inr ⟨by assumption, Or.inl (by assumption)⟩) | exact rbst_take2 eb (by assumption) (by assumption) (Or.inr ⟨by assumption, Or.inr (by assumption)⟩)) (nI_1 p))
                · --f75
                  refine g_goto (t := 89) C dX11_best_78 (by decide) ?_
                  refine g_iinc (n := 92) C dX11_best_89 rfl rfl rfl (by decide) ?_
                  refine g_goto (t := 11) C dX11_best_92 (by decide) ?_
                  exact g_lv [0, 1, 2, 3] rfl (ihp (i_lt (n := 96) rfl zc14 hlep (by decide)) _ _ _ (by first | exact rbst_skip eb (Or.inl (by assumption)) | exact rbst_skip eb (Or.inr (Or.inl (by assumption))) | exact rbst_skip eb (Or.inr (Or.inr ⟨by assumption, Or.inl (by assumption)⟩)) | exact rbst_skip eb (Or.inr (Or.inr ⟨by assumption, Or.inr ⟨by assumption, Int32.not_lt.mp (by assumption)⟩⟩)) | exact rbst_take2 eb (by assumption) (by assumption) (Or.inl (by assumption)) | exact rbst_take2 eb (by assumption) (by assumption) (Or.inr ⟨by assumption, Or.inl (by assumption)⟩) | exact rbst_take2 eb (by assumption) (by assumption) (Or.inr ⟨by assumption, Or.inr (by assumption)⟩)) (nI_1 p))
        · --k40.1
          refine g_if_eq (n := 46) (t := 89) C dX11_best_43 rfl (by decide) (fun zc43 => ?_) (fun zc43 => ?_)
          rotate_left
          · exact absurd zc43 (by decide)
          refine g_iinc (n := 92) C dX11_best_89 rfl rfl rfl (by decide) ?_
          refine g_goto (t := 11) C dX11_best_92 (by decide) ?_
          exact g_lv [0, 1, 2, 3] rfl (ihp (i_lt (n := 96) rfl zc14 hlep (by decide)) _ _ _ (by first | exact rbst_skip eb (Or.inl (by assumption)) | exact rbst_skip eb (Or.inr (Or.inl (by assumption))) | exact rbst_skip eb (Or.inr (Or.inr ⟨by assumption, Or.inl (by assumption)⟩)) | exact rbst_skip eb (Or.inr (Or.inr ⟨by assumption, Or.inr ⟨by assumption, Int32.not_lt.mp (by assumption)⟩⟩)) | exact rbst_take2 eb (by assumption) (by assumption) (Or.inl (by assumption)) | exact rbst_take2 eb (by assumption) (by assumption) (Or.inr ⟨by assumption, Or.inl (by assumption)⟩) | exact rbst_take2 eb (by assumption) (by assumption) (Or.inr ⟨by assumption, Or.inr (by assumption)⟩)) (nI_1 p))
  exact g_lv [0, 1, 2, 3] rfl (lp 0 (Nat.zero_le _) _ _ _ rfl rfl)
theorem dX11_bondOf_0 : decode cX11_bondOf 0 = .ok (.aload_n 0, 1) := by decide +kernel
theorem dX11_bondOf_1 : decode cX11_bondOf 1 = .ok (.getfield 29, 3) := by decide +kernel
theorem dX11_bondOf_4 : decode cX11_bondOf 4 = .ok (.iload_n 1, 1) := by decide +kernel
theorem dX11_bondOf_5 : decode cX11_bondOf 5 = .ok (.iaload, 1) := by decide +kernel
theorem dX11_bondOf_6 : decode cX11_bondOf 6 = .ok (.ifCond .ne 5, 3) := by decide +kernel
theorem dX11_bondOf_9 : decode cX11_bondOf 9 = .ok (.iconst 0, 1) := by decide +kernel
theorem dX11_bondOf_10 : decode cX11_bondOf 10 = .ok (.ireturn, 1) := by decide +kernel
theorem dX11_bondOf_11 : decode cX11_bondOf 11 = .ok (.aload_n 0, 1) := by decide +kernel
theorem dX11_bondOf_12 : decode cX11_bondOf 12 = .ok (.getfield 23, 3) := by decide +kernel
theorem dX11_bondOf_15 : decode cX11_bondOf 15 = .ok (.iload_n 1, 1) := by decide +kernel
theorem dX11_bondOf_16 : decode cX11_bondOf 16 = .ok (.iaload, 1) := by decide +kernel
theorem dX11_bondOf_17 : decode cX11_bondOf 17 = .ok (.ifCond .lt 12, 3) := by decide +kernel
theorem dX11_bondOf_20 : decode cX11_bondOf 20 = .ok (.aload_n 0, 1) := by decide +kernel
theorem dX11_bondOf_21 : decode cX11_bondOf 21 = .ok (.getfield 23, 3) := by decide +kernel
theorem dX11_bondOf_24 : decode cX11_bondOf 24 = .ok (.iload_n 1, 1) := by decide +kernel
theorem dX11_bondOf_25 : decode cX11_bondOf 25 = .ok (.iaload, 1) := by decide +kernel
theorem dX11_bondOf_26 : decode cX11_bondOf 26 = .ok (.goto 7, 3) := by decide +kernel
theorem dX11_bondOf_29 : decode cX11_bondOf 29 = .ok (.aload_n 0, 1) := by decide +kernel
theorem dX11_bondOf_30 : decode cX11_bondOf 30 = .ok (.getfield 189, 3) := by decide +kernel
theorem dX11_bondOf_33 : decode cX11_bondOf 33 = .ok (.istore_n 2, 1) := by decide +kernel
theorem dX11_bondOf_34 : decode cX11_bondOf 34 = .ok (.iload_n 2, 1) := by decide +kernel
theorem dX11_bondOf_35 : decode cX11_bondOf 35 = .ok (.aload_n 0, 1) := by decide +kernel
theorem dX11_bondOf_36 : decode cX11_bondOf 36 = .ok (.getfield 26, 3) := by decide +kernel
theorem dX11_bondOf_39 : decode cX11_bondOf 39 = .ok (.iload_n 1, 1) := by decide +kernel
theorem dX11_bondOf_40 : decode cX11_bondOf 40 = .ok (.iaload, 1) := by decide +kernel
theorem dX11_bondOf_41 : decode cX11_bondOf 41 = .ok (.if_icmp .le 7, 3) := by decide +kernel
theorem dX11_bondOf_44 : decode cX11_bondOf 44 = .ok (.iconst 2, 1) := by decide +kernel
theorem dX11_bondOf_45 : decode cX11_bondOf 45 = .ok (.goto 17, 3) := by decide +kernel
theorem dX11_bondOf_48 : decode cX11_bondOf 48 = .ok (.aload_n 0, 1) := by decide +kernel
theorem dX11_bondOf_49 : decode cX11_bondOf 49 = .ok (.getfield 23, 3) := by decide +kernel
theorem dX11_bondOf_52 : decode cX11_bondOf 52 = .ok (.iload_n 1, 1) := by decide +kernel
theorem dX11_bondOf_53 : decode cX11_bondOf 53 = .ok (.iaload, 1) := by decide +kernel
theorem dX11_bondOf_54 : decode cX11_bondOf 54 = .ok (.ifCond .lt 7, 3) := by decide +kernel
theorem dX11_bondOf_57 : decode cX11_bondOf 57 = .ok (.iconst 0, 1) := by decide +kernel
theorem dX11_bondOf_58 : decode cX11_bondOf 58 = .ok (.goto 4, 3) := by decide +kernel
theorem dX11_bondOf_61 : decode cX11_bondOf 61 = .ok (.iconst 1, 1) := by decide +kernel
theorem dX11_bondOf_62 : decode cX11_bondOf 62 = .ok (.ireturn, 1) := by decide +kernel
set_option maxHeartbeats 400000 in
set_option maxRecDepth 20000 in
theorem ct_bondOf {l : Launch} {E : Ev} {P : Value → AH → Prop} {o : Nat} {ad : Nat → Nat} {F : Nat → Int32} {A : Nat → Nat → Int32} {h : AH} (I : mI o ad) {p : Nat} (hp30 : p < 30) (hp : P (.int (rbond F A p)) (mh E o ad F A h)) : Mt l E yX11_bondOf cX11_bondOf 3 (some .int) 0 0 0 0 [.ref o, .int (nI p)] (mh E o ad F A h) P := by
  refine Mt.of (by decide) (Nat.le_of_ble_eq_true rfl) ?_
  intro K hK hR C
  refine g_aload_n (n := 1) C dX11_bondOf_0 rfl rfl ?_
  refine m_get (n := 4) 8 C dX11_bondOf_1 rfl (by decide) rfl w_1108 rfl ?_
  refine g_iload_n (n := 5) C dX11_bondOf_4 rfl rfl ?_
  refine m_iald (n := 6) 8 (p) C dX11_bondOf_5 rfl I (by decide) rfl rfl hp30 (by decide) rfl ?_
  refine g_if_ne (n := 9) (t := 11) C dX11_bondOf_6 rfl (by decide) (fun zc6 => ?_) (fun zc6 => ?_)
  · --t6
    refine g_aload_n (n := 12) C dX11_bondOf_11 rfl rfl ?_
    refine m_get (n := 15) 6 C dX11_bondOf_12 rfl (by decide) rfl w_1106 rfl ?_
    refine g_iload_n (n := 16) C dX11_bondOf_15 rfl rfl ?_
    refine m_iald (n := 17) 6 (p) C dX11_bondOf_16 rfl I (by decide) rfl rfl hp30 (by decide) rfl ?_
    refine g_if_lt (n := 20) (t := 29) C dX11_bondOf_17 rfl (by decide) (fun zc17 => ?_) (fun zc17 => ?_)
    · --t17
      refine g_aload_n (n := 30) C dX11_bondOf_29 rfl rfl ?_
      refine m_get (n := 33) 1 C dX11_bondOf_30 rfl (by decide) rfl w_1101 rfl ?_
      refine g_istore_n (n := 34) C dX11_bondOf_33 rfl (by decide) ?_
      refine g_iload_n (n := 35) C dX11_bondOf_34 rfl rfl ?_
      refine g_aload_n (n := 36) C dX11_bondOf_35 rfl rfl ?_
      refine m_get (n := 39) 7 C dX11_bondOf_36 rfl (by decide) rfl w_1107 rfl ?_
      refine g_iload_n (n := 40) C dX11_bondOf_39 rfl rfl ?_
      refine m_iald (n := 41) 7 (p) C dX11_bondOf_40 rfl I (by decide) rfl rfl hp30 (by decide) rfl ?_
      refine g_icmp_le (n := 44) (t := 48) C dX11_bondOf_41 rfl (by decide) (fun zc41 => ?_) (fun zc41 => ?_)
      · --t41
        refine g_aload_n (n := 49) C dX11_bondOf_48 rfl rfl ?_
        refine m_get (n := 52) 6 C dX11_bondOf_49 rfl (by decide) rfl w_1106 rfl ?_
        refine g_iload_n (n := 53) C dX11_bondOf_52 rfl rfl ?_
        refine m_iald (n := 54) 6 (p) C dX11_bondOf_53 rfl I (by decide) rfl rfl hp30 (by decide) rfl ?_
        refine g_if_lt (n := 57) (t := 61) C dX11_bondOf_54 rfl (by decide) (fun zc54 => ?_) (fun zc54 => ?_)
        · --t54
          refine g_iconst (n := 62) (v := 1) C dX11_bondOf_61 rfl (by decide) ?_
          refine g_iret C dX11_bondOf_62 (by decide) (by decide) ?_
          refine (congrArg (fun v => P (.int v) (mh E o ad F A h)) ?_).mp hp
          unfold rbond
          first | (rw [if_pos (by assumption)]; done) | (rw [if_neg (by assumption)]; split <;> split <;> first | rfl | exact absurd (by assumption) (Int32.not_lt.mpr zc41) | exact absurd (Int32.not_le.mp zc41) (by assumption) | contradiction)
        · --f54
          refine g_iconst (n := 58) (v := 0) C dX11_bondOf_57 rfl (by decide) ?_
          refine g_goto (t := 62) C dX11_bondOf_58 (by decide) ?_
          refine g_iret C dX11_bondOf_62 (by decide) (by decide) ?_
          refine (congrArg (fun v => P (.int v) (mh E o ad F A h)) ?_).mp hp
          unfold rbond
          first | (rw [if_pos (by assumption)]; done) | (rw [if_neg (by assumption)]; split <;> split <;> first | rfl | exact absurd (by assumption) (Int32.not_lt.mpr zc41) | exact absurd (Int32.not_le.mp zc41) (by assumption) | contradiction)
      · --f41
        refine g_iconst (n := 45) (v := 2) C dX11_bondOf_44 rfl (by decide) ?_
        refine g_goto (t := 62) C dX11_bondOf_45 (by decide) ?_
        refine g_iret C dX11_bondOf_62 (by decide) (by decide) ?_
        refine (congrArg (fun v => P (.int v) (mh E o ad F A h)) ?_).mp hp
        unfold rbond
        first | (rw [if_pos (by assumption)]; done) | (rw [if_neg (by assumption)]; split <;> split <;> first | rfl | exact absurd (by assumption) (Int32.not_lt.mpr zc41) | exact absurd (Int32.not_le.mp zc41) (by assumption) | contradiction)
    · --f17
      refine g_aload_n (n := 21) C dX11_bondOf_20 rfl rfl ?_
      refine m_get (n := 24) 6 C dX11_bondOf_21 rfl (by decide) rfl w_1106 rfl ?_
      refine g_iload_n (n := 25) C dX11_bondOf_24 rfl rfl ?_
      refine m_iald (n := 26) 6 (p) C dX11_bondOf_25 rfl I (by decide) rfl rfl hp30 (by decide) rfl ?_
      refine g_goto (t := 33) C dX11_bondOf_26 (by decide) ?_
      refine g_istore_n (n := 34) C dX11_bondOf_33 rfl (by decide) ?_
      refine g_iload_n (n := 35) C dX11_bondOf_34 rfl rfl ?_
      refine g_aload_n (n := 36) C dX11_bondOf_35 rfl rfl ?_
      refine m_get (n := 39) 7 C dX11_bondOf_36 rfl (by decide) rfl w_1107 rfl ?_
      refine g_iload_n (n := 40) C dX11_bondOf_39 rfl rfl ?_
      refine m_iald (n := 41) 7 (p) C dX11_bondOf_40 rfl I (by decide) rfl rfl hp30 (by decide) rfl ?_
      refine g_icmp_le (n := 44) (t := 48) C dX11_bondOf_41 rfl (by decide) (fun zc41 => ?_) (fun zc41 => ?_)
      · --t41
        refine g_aload_n (n := 49) C dX11_bondOf_48 rfl rfl ?_
        refine m_get (n := 52) 6 C dX11_bondOf_49 rfl (by decide) rfl w_1106 rfl ?_
        refine g_iload_n (n := 53) C dX11_bondOf_52 rfl rfl ?_
        refine m_iald (n := 54) 6 (p) C dX11_bondOf_53 rfl I (by decide) rfl rfl hp30 (by decide) rfl ?_
        refine g_if_lt (n := 57) (t := 61) C dX11_bondOf_54 rfl (by decide) (fun zc54 => ?_) (fun zc54 => ?_)
        · --t54
          refine g_iconst (n := 62) (v := 1) C dX11_bondOf_61 rfl (by decide) ?_
          refine g_iret C dX11_bondOf_62 (by decide) (by decide) ?_
          refine (congrArg (fun v => P (.int v) (mh E o ad F A h)) ?_).mp hp
          unfold rbond
          first | (rw [if_pos (by assumption)]; done) | (rw [if_neg (by assumption)]; split <;> split <;> first | rfl | exact absurd (by assumption) (Int32.not_lt.mpr zc41) | exact absurd (Int32.not_le.mp zc41) (by assumption) | contradiction)
        · --f54
          refine g_iconst (n := 58) (v := 0) C dX11_bondOf_57 rfl (by decide) ?_
          refine g_goto (t := 62) C dX11_bondOf_58 (by decide) ?_
          refine g_iret C dX11_bondOf_62 (by decide) (by decide) ?_
          refine (congrArg (fun v => P (.int v) (mh E o ad F A h)) ?_).mp hp
          unfold rbond
          first | (rw [if_pos (by assumption)]; done) | (rw [if_neg (by assumption)]; split <;> split <;> first | rfl | exact absurd (by assumption) (Int32.not_lt.mpr zc41) | exact absurd (Int32.not_le.mp zc41) (by assumption) | contradiction)
      · --f41
        refine g_iconst (n := 45) (v := 2) C dX11_bondOf_44 rfl (by decide) ?_
        refine g_goto (t := 62) C dX11_bondOf_45 (by decide) ?_
        refine g_iret C dX11_bondOf_62 (by decide) (by decide) ?_
        refine (congrArg (fun v => P (.int v) (mh E o ad F A h)) ?_).mp hp
        unfold rbond
        first | (rw [if_pos (by assumption)]; done) | (rw [if_neg (by assumption)]; split <;> split <;> first | rfl | exact absurd (by assumption) (Int32.not_lt.mpr zc41) | exact absurd (Int32.not_le.mp zc41) (by assumption) | contradiction)
  · --f6
    refine g_iconst (n := 10) (v := 0) C dX11_bondOf_9 rfl (by decide) ?_
    refine g_iret C dX11_bondOf_10 (by decide) (by decide) ?_
    refine (congrArg (fun v => P (.int v) (mh E o ad F A h)) ?_).mp hp
    unfold rbond
    first | (rw [if_pos (by assumption)]; done) | (rw [if_neg (by assumption)]; split <;> split <;> first | rfl | exact absurd (by assumption) (Int32.not_lt.mpr zc41) | exact absurd (Int32.not_le.mp zc41) (by assumption) | contradiction)
theorem dX11_look_0 : decode cX11_look 0 = .ok (.aload_n 0, 1) := by decide +kernel
theorem dX11_look_1 : decode cX11_look 1 = .ok (.iconst 0, 1) := by decide +kernel
theorem dX11_look_2 : decode cX11_look 2 = .ok (.putfield 76, 3) := by decide +kernel
theorem dX11_look_5 : decode cX11_look 5 = .ok (.aload_n 0, 1) := by decide +kernel
theorem dX11_look_6 : decode cX11_look 6 = .ok (.aload_n 0, 1) := by decide +kernel
theorem dX11_look_7 : decode cX11_look 7 = .ok (.iload_n 1, 1) := by decide +kernel
theorem dX11_look_8 : decode cX11_look 8 = .ok (.invokevirtual 192, 3) := by decide +kernel
theorem dX11_look_11 : decode cX11_look 11 = .ok (.iconst 1, 1) := by decide +kernel
theorem dX11_look_12 : decode cX11_look 12 = .ok (.invokevirtual 162, 3) := by decide +kernel
theorem dX11_look_15 : decode cX11_look 15 = .ok (.ifCond .eq 5, 3) := by decide +kernel
theorem dX11_look_18 : decode cX11_look 18 = .ok (.iconst 0, 1) := by decide +kernel
theorem dX11_look_19 : decode cX11_look 19 = .ok (.ireturn, 1) := by decide +kernel
theorem dX11_look_20 : decode cX11_look 20 = .ok (.iload_n 2, 1) := by decide +kernel
theorem dX11_look_21 : decode cX11_look 21 = .ok (.tableswitch 80 0 5 #[39, 46, 53, 60, 67, 73], 39) := by decide +kernel
theorem dX11_look_60 : decode cX11_look 60 = .ok (.aload_n 0, 1) := by decide +kernel
theorem dX11_look_61 : decode cX11_look 61 = .ok (.getfield 13, 3) := by decide +kernel
theorem dX11_look_64 : decode cX11_look 64 = .ok (.iload_n 1, 1) := by decide +kernel
theorem dX11_look_65 : decode cX11_look 65 = .ok (.iaload, 1) := by decide +kernel
theorem dX11_look_66 : decode cX11_look 66 = .ok (.ireturn, 1) := by decide +kernel
theorem dX11_look_67 : decode cX11_look 67 = .ok (.aload_n 0, 1) := by decide +kernel
theorem dX11_look_68 : decode cX11_look 68 = .ok (.getfield 17, 3) := by decide +kernel
theorem dX11_look_71 : decode cX11_look 71 = .ok (.iload_n 1, 1) := by decide +kernel
theorem dX11_look_72 : decode cX11_look 72 = .ok (.iaload, 1) := by decide +kernel
theorem dX11_look_73 : decode cX11_look 73 = .ok (.ireturn, 1) := by decide +kernel
theorem dX11_look_74 : decode cX11_look 74 = .ok (.aload_n 0, 1) := by decide +kernel
theorem dX11_look_75 : decode cX11_look 75 = .ok (.getfield 20, 3) := by decide +kernel
theorem dX11_look_78 : decode cX11_look 78 = .ok (.iload_n 1, 1) := by decide +kernel
theorem dX11_look_79 : decode cX11_look 79 = .ok (.iaload, 1) := by decide +kernel
theorem dX11_look_80 : decode cX11_look 80 = .ok (.ireturn, 1) := by decide +kernel
theorem dX11_look_81 : decode cX11_look 81 = .ok (.aload_n 0, 1) := by decide +kernel
theorem dX11_look_82 : decode cX11_look 82 = .ok (.getfield 23, 3) := by decide +kernel
theorem dX11_look_85 : decode cX11_look 85 = .ok (.iload_n 1, 1) := by decide +kernel
theorem dX11_look_86 : decode cX11_look 86 = .ok (.iaload, 1) := by decide +kernel
theorem dX11_look_87 : decode cX11_look 87 = .ok (.ireturn, 1) := by decide +kernel
theorem dX11_look_88 : decode cX11_look 88 = .ok (.aload_n 0, 1) := by decide +kernel
theorem dX11_look_89 : decode cX11_look 89 = .ok (.iload_n 1, 1) := by decide +kernel
theorem dX11_look_90 : decode cX11_look 90 = .ok (.invokevirtual 203, 3) := by decide +kernel
theorem dX11_look_93 : decode cX11_look 93 = .ok (.ireturn, 1) := by decide +kernel
theorem dX11_look_94 : decode cX11_look 94 = .ok (.aload_n 0, 1) := by decide +kernel
theorem dX11_look_95 : decode cX11_look 95 = .ok (.getfield 26, 3) := by decide +kernel
theorem dX11_look_98 : decode cX11_look 98 = .ok (.iload_n 1, 1) := by decide +kernel
theorem dX11_look_99 : decode cX11_look 99 = .ok (.iaload, 1) := by decide +kernel
theorem dX11_look_100 : decode cX11_look 100 = .ok (.ireturn, 1) := by decide +kernel
theorem dX11_look_101 : decode cX11_look 101 = .ok (.aload_n 0, 1) := by decide +kernel
theorem dX11_look_102 : decode cX11_look 102 = .ok (.iconst 2, 1) := by decide +kernel
theorem dX11_look_103 : decode cX11_look 103 = .ok (.putfield 76, 3) := by decide +kernel
theorem dX11_look_106 : decode cX11_look 106 = .ok (.iconst 0, 1) := by decide +kernel
theorem dX11_look_107 : decode cX11_look 107 = .ok (.ireturn, 1) := by decide +kernel
set_option maxHeartbeats 400000 in
set_option maxRecDepth 20000 in
theorem ct_look {l : Launch} {E : Ev} {P : Value → AH → Prop} {o : Nat} {ad : Nat → Nat} {F : Nat → Int32} {A : Nat → Nat → Int32} {h : AH} (I : mI o ad) {n : Nat} (hn : F 9 = nI n) (hn3 : n ≤ 30) {p w : Int32} (k1 : p < 0 ∨ F 9 - 1 < p → P (.int 0) (mh E o ad (upd (upd F 0 0) 0 1) A h)) (k2_0 : ∀ j, j < n → p = nI j → w = 0 → P (.int (A 3 j)) (mh E o ad (upd F 0 0) A h)) (k2_1 : ∀ j, j < n → p = nI j → w = 1 → P (.int (A 4 j)) (mh E o ad (upd F 0 0) A h)) (k2_2 : ∀ j, j < n → p = nI j → w = 2 → P (.int (A 5 j)) (mh E o ad (upd F 0 0) A h)) (k2_3 : ∀ j, j < n → p = nI j → w = 3 → P (.int (A 6 j)) (mh E o ad (upd F 0 0) A h)) (k2_4 : ∀ j, j < n → p = nI j → w = 4 → P (.int (rbond F A j)) (mh E o ad (upd F 0 0) A h)) (k2_5 : ∀ j, j < n → p = nI j → w = 5 → P (.int (A 7 j)) (mh E o ad (upd F 0 0) A h)) (k3 : ∀ j, j < n → p = nI j → ¬ w = 0 → ¬ w = 1 → ¬ w = 2 → ¬ w = 3 → ¬ w = 4 → ¬ w = 5 → P (.int 0) (mh E o ad (upd (upd F 0 0) 0 2) A h)) : Mt l E yX11_look cX11_look 3 (some .int) 8 134 0 0 [.ref o, .int p, .int w] (mh E o ad F A h) P := by
  refine Mt.of (by decide) (Nat.le_of_ble_eq_true rfl) ?_
  intro K hK hR C
  refine g_aload_n (n := 1) C dX11_look_0 rfl rfl ?_
  refine g_iconst (n := 2) (v := 0) C dX11_look_1 rfl (by decide) ?_
  refine m_put (n := 5) 0 C dX11_look_2 rfl (by decide) w_1100 rfl rfl rfl mfs_0 ?_
  refine g_aload_n (n := 6) C dX11_look_5 rfl rfl ?_
  refine g_aload_n (n := 7) C dX11_look_6 rfl rfl ?_
  refine g_iload_n (n := 8) C dX11_look_7 rfl rfl ?_
  refine g_callV (n := 11) (As := [.int _]) C dX11_look_8 rfl mw_X11_noPit w_1296 (g_recv C mh_o rfl) rfl rfl (room hR rfl) (ct_noPit (fun za8 zb8 => ?_) (fun za8 => ?_))
  · --k8.0
    obtain ⟨j, hj, rfl⟩ := ix_of za8 zb8 (show upd F 0 0 9 = nI n from hn) (by omega)
    have hj30 : j < 30 := by omega
    refine g_iconst (n := 12) (v := 1) C dX11_look_11 rfl (by decide) ?_
    refine g_callV (n := 15) (As := [.int _, .int _]) C dX11_look_12 rfl mw_X11_throwsIf w_1257 (g_recv C mh_o rfl) rfl rfl (room hR rfl) (ct_throwsIf0 ?_)
    refine g_if_eq (n := 18) (t := 20) C dX11_look_15 rfl (by decide) (fun zc15 => ?_) (fun zc15 => ?_)
    rotate_left
    · exact absurd zc15 (by decide)
    refine g_iload_n (n := 21) C dX11_look_20 rfl rfl ?_
    refine g_case (v := 0) (fun zc21_0 => ?_) (fun zc21_0 => ?_)
    · --case 0
      refine g_tableIn (t := 60) C dX11_look_21 (by decide) (by decide) (by rfl) (by decide) ?_
      refine g_aload_n (n := 61) C dX11_look_60 rfl rfl ?_
      refine m_get (n := 64) 3 C dX11_look_61 rfl (by decide) rfl w_1103 rfl ?_
      refine g_iload_n (n := 65) C dX11_look_64 rfl rfl ?_
      refine m_iald (n := 66) 3 (j) C dX11_look_65 rfl I (by decide) rfl rfl hj30 (by decide) rfl ?_
      refine g_iret C dX11_look_66 (by decide) (by decide) ?_
      exact k2_0 j hj rfl zc21_0
    refine g_case (v := 1) (fun zc21_1 => ?_) (fun zc21_1 => ?_)
    · --case 1
      refine g_tableIn (t := 67) C dX11_look_21 (by decide) (by decide) (by rfl) (by decide) ?_
      refine g_aload_n (n := 68) C dX11_look_67 rfl rfl ?_
      refine m_get (n := 71) 4 C dX11_look_68 rfl (by decide) rfl w_1104 rfl ?_
      refine g_iload_n (n := 72) C dX11_look_71 rfl rfl ?_
      refine m_iald (n := 73) 4 (j) C dX11_look_72 rfl I (by decide) rfl rfl hj30 (by decide) rfl ?_
      refine g_iret C dX11_look_73 (by decide) (by decide) ?_
      exact k2_1 j hj rfl zc21_1
    refine g_case (v := 2) (fun zc21_2 => ?_) (fun zc21_2 => ?_)
    · --case 2
      refine g_tableIn (t := 74) C dX11_look_21 (by decide) (by decide) (by rfl) (by decide) ?_
      refine g_aload_n (n := 75) C dX11_look_74 rfl rfl ?_
      refine m_get (n := 78) 5 C dX11_look_75 rfl (by decide) rfl w_1105 rfl ?_
      refine g_iload_n (n := 79) C dX11_look_78 rfl rfl ?_
      refine m_iald (n := 80) 5 (j) C dX11_look_79 rfl I (by decide) rfl rfl hj30 (by decide) rfl ?_
      refine g_iret C dX11_look_80 (by decide) (by decide) ?_
      exact k2_2 j hj rfl zc21_2
    refine g_case (v := 3) (fun zc21_3 => ?_) (fun zc21_3 => ?_)
    · --case 3
      refine g_tableIn (t := 81) C dX11_look_21 (by decide) (by decide) (by rfl) (by decide) ?_
      refine g_aload_n (n := 82) C dX11_look_81 rfl rfl ?_
      refine m_get (n := 85) 6 C dX11_look_82 rfl (by decide) rfl w_1106 rfl ?_
      refine g_iload_n (n := 86) C dX11_look_85 rfl rfl ?_
      refine m_iald (n := 87) 6 (j) C dX11_look_86 rfl I (by decide) rfl rfl hj30 (by decide) rfl ?_
      refine g_iret C dX11_look_87 (by decide) (by decide) ?_
      exact k2_3 j hj rfl zc21_3
    refine g_case (v := 4) (fun zc21_4 => ?_) (fun zc21_4 => ?_)
    · --case 4
      refine g_tableIn (t := 88) C dX11_look_21 (by decide) (by decide) (by rfl) (by decide) ?_
      refine g_aload_n (n := 89) C dX11_look_88 rfl rfl ?_
      refine g_iload_n (n := 90) C dX11_look_89 rfl rfl ?_
      refine g_callV (n := 93) (As := [.int _]) C dX11_look_90 rfl mw_X11_bondOf w_1329 (g_recv C mh_o rfl) rfl rfl (room hR rfl) (ct_bondOf I hj30 ?_)
      refine g_iret C dX11_look_93 (by decide) (by decide) ?_
      exact k2_4 j hj rfl zc21_4
    refine g_case (v := 5) (fun zc21_5 => ?_) (fun zc21_5 => ?_)
    · --case 5
      refine g_tableIn (t := 94) C dX11_look_21 (by decide) (by decide) (by rfl) (by decide) ?_
      refine g_aload_n (n := 95) C dX11_look_94 rfl rfl ?_
      refine m_get (n := 98) 7 C dX11_look_95 rfl (by decide) rfl w_1107 rfl ?_
      refine g_iload_n (n := 99) C dX11_look_98 rfl rfl ?_
      refine m_iald (n := 100) 7 (j) C dX11_look_99 rfl I (by decide) rfl rfl hj30 (by decide) rfl ?_
      refine g_iret C dX11_look_100 (by decide) (by decide) ?_
      exact k2_5 j hj rfl zc21_5
    refine g_tableOut (t := 101) C dX11_look_21 (by first | exact g_tout6 zc21_0 zc21_1 zc21_2 zc21_3 zc21_4 zc21_5) (by decide) ?_
    refine g_aload_n (n := 102) C dX11_look_101 rfl rfl ?_
    refine g_iconst (n := 103) (v := 2) C dX11_look_102 rfl (by decide) ?_
    refine m_put (n := 106) 0 C dX11_look_103 rfl (by decide) w_1100 rfl rfl rfl mfs_0 ?_
    refine g_iconst (n := 107) (v := 0) C dX11_look_106 rfl (by decide) ?_
    refine g_iret C dX11_look_107 (by decide) (by decide) ?_
    exact k3 j hj rfl zc21_0 zc21_1 zc21_2 zc21_3 zc21_4 zc21_5
  · --k8.1
    refine g_iconst (n := 12) (v := 1) C dX11_look_11 rfl (by decide) ?_
    refine g_callV (n := 15) (As := [.int _, .int _]) C dX11_look_12 rfl mw_X11_throwsIf w_1257 (g_recv C mh_o rfl) rfl rfl (room hR rfl) (ct_throwsIf1 ?_)
    refine g_if_eq (n := 18) (t := 20) C dX11_look_15 rfl (by decide) (fun zc15 => ?_) (fun zc15 => ?_)
    · exact absurd zc15 (by decide)
    refine g_iconst (n := 19) (v := 0) C dX11_look_18 rfl (by decide) ?_
    refine g_iret C dX11_look_19 (by decide) (by decide) ?_
    exact k1 (by assumption)
theorem dX11_stone_0 : decode cX11_stone 0 = .ok (.aload_n 0, 1) := by decide +kernel
theorem dX11_stone_1 : decode cX11_stone 1 = .ok (.iconst 0, 1) := by decide +kernel
theorem dX11_stone_2 : decode cX11_stone 2 = .ok (.putfield 76, 3) := by decide +kernel
theorem dX11_stone_5 : decode cX11_stone 5 = .ok (.aload_n 0, 1) := by decide +kernel
theorem dX11_stone_6 : decode cX11_stone 6 = .ok (.aload_n 0, 1) := by decide +kernel
theorem dX11_stone_7 : decode cX11_stone 7 = .ok (.iload_n 1, 1) := by decide +kernel
theorem dX11_stone_8 : decode cX11_stone 8 = .ok (.invokevirtual 192, 3) := by decide +kernel
theorem dX11_stone_11 : decode cX11_stone 11 = .ok (.iconst 1, 1) := by decide +kernel
theorem dX11_stone_12 : decode cX11_stone 12 = .ok (.invokevirtual 162, 3) := by decide +kernel
theorem dX11_stone_15 : decode cX11_stone 15 = .ok (.ifCond .ne 70, 3) := by decide +kernel
theorem dX11_stone_18 : decode cX11_stone 18 = .ok (.aload_n 0, 1) := by decide +kernel
theorem dX11_stone_19 : decode cX11_stone 19 = .ok (.iload_n 2, 1) := by decide +kernel
theorem dX11_stone_20 : decode cX11_stone 20 = .ok (.iconst 0, 1) := by decide +kernel
theorem dX11_stone_21 : decode cX11_stone 21 = .ok (.bipush 99, 2) := by decide +kernel
theorem dX11_stone_23 : decode cX11_stone 23 = .ok (.invokestatic 79, 3) := by decide +kernel
theorem dX11_stone_26 : decode cX11_stone 26 = .ok (.ifCond .ne 7, 3) := by decide +kernel
theorem dX11_stone_29 : decode cX11_stone 29 = .ok (.iconst 1, 1) := by decide +kernel
theorem dX11_stone_30 : decode cX11_stone 30 = .ok (.goto 4, 3) := by decide +kernel
theorem dX11_stone_33 : decode cX11_stone 33 = .ok (.iconst 0, 1) := by decide +kernel
theorem dX11_stone_34 : decode cX11_stone 34 = .ok (.iconst 2, 1) := by decide +kernel
theorem dX11_stone_35 : decode cX11_stone 35 = .ok (.invokevirtual 162, 3) := by decide +kernel
theorem dX11_stone_38 : decode cX11_stone 38 = .ok (.ifCond .ne 47, 3) := by decide +kernel
theorem dX11_stone_41 : decode cX11_stone 41 = .ok (.aload_n 0, 1) := by decide +kernel
theorem dX11_stone_42 : decode cX11_stone 42 = .ok (.aload_n 0, 1) := by decide +kernel
theorem dX11_stone_43 : decode cX11_stone 43 = .ok (.getfield 20, 3) := by decide +kernel
theorem dX11_stone_46 : decode cX11_stone 46 = .ok (.iload_n 1, 1) := by decide +kernel
theorem dX11_stone_47 : decode cX11_stone 47 = .ok (.iaload, 1) := by decide +kernel
theorem dX11_stone_48 : decode cX11_stone 48 = .ok (.ifCond .gt 7, 3) := by decide +kernel
theorem dX11_stone_51 : decode cX11_stone 51 = .ok (.iconst 1, 1) := by decide +kernel
theorem dX11_stone_52 : decode cX11_stone 52 = .ok (.goto 4, 3) := by decide +kernel
theorem dX11_stone_55 : decode cX11_stone 55 = .ok (.iconst 0, 1) := by decide +kernel
theorem dX11_stone_56 : decode cX11_stone 56 = .ok (.iconst 3, 1) := by decide +kernel
theorem dX11_stone_57 : decode cX11_stone 57 = .ok (.invokevirtual 162, 3) := by decide +kernel
theorem dX11_stone_60 : decode cX11_stone 60 = .ok (.ifCond .ne 25, 3) := by decide +kernel
theorem dX11_stone_63 : decode cX11_stone 63 = .ok (.aload_n 0, 1) := by decide +kernel
theorem dX11_stone_64 : decode cX11_stone 64 = .ok (.aload_n 0, 1) := by decide +kernel
theorem dX11_stone_65 : decode cX11_stone 65 = .ok (.getfield 86, 3) := by decide +kernel
theorem dX11_stone_68 : decode cX11_stone 68 = .ok (.bipush 60, 2) := by decide +kernel
theorem dX11_stone_70 : decode cX11_stone 70 = .ok (.if_icmp .ne 7, 3) := by decide +kernel
theorem dX11_stone_73 : decode cX11_stone 73 = .ok (.iconst 1, 1) := by decide +kernel
theorem dX11_stone_74 : decode cX11_stone 74 = .ok (.goto 4, 3) := by decide +kernel
theorem dX11_stone_77 : decode cX11_stone 77 = .ok (.iconst 0, 1) := by decide +kernel
theorem dX11_stone_78 : decode cX11_stone 78 = .ok (.iconst 4, 1) := by decide +kernel
theorem dX11_stone_79 : decode cX11_stone 79 = .ok (.invokevirtual 162, 3) := by decide +kernel
theorem dX11_stone_82 : decode cX11_stone 82 = .ok (.ifCond .eq 5, 3) := by decide +kernel
theorem dX11_stone_85 : decode cX11_stone 85 = .ok (.iconst 0, 1) := by decide +kernel
theorem dX11_stone_86 : decode cX11_stone 86 = .ok (.ireturn, 1) := by decide +kernel
theorem dX11_stone_87 : decode cX11_stone 87 = .ok (.aload_n 0, 1) := by decide +kernel
theorem dX11_stone_88 : decode cX11_stone 88 = .ok (.getfield 51, 3) := by decide +kernel
theorem dX11_stone_91 : decode cX11_stone 91 = .ok (.bipush 10, 2) := by decide +kernel
theorem dX11_stone_93 : decode cX11_stone 93 = .ok (.aload_n 0, 1) := by decide +kernel
theorem dX11_stone_94 : decode cX11_stone 94 = .ok (.getfield 86, 3) := by decide +kernel
theorem dX11_stone_97 : decode cX11_stone 97 = .ok (.imul, 1) := by decide +kernel
theorem dX11_stone_98 : decode cX11_stone 98 = .ok (.iload_n 1, 1) := by decide +kernel
theorem dX11_stone_99 : decode cX11_stone 99 = .ok (.iastore, 1) := by decide +kernel
theorem dX11_stone_100 : decode cX11_stone 100 = .ok (.aload_n 0, 1) := by decide +kernel
theorem dX11_stone_101 : decode cX11_stone 101 = .ok (.getfield 51, 3) := by decide +kernel
theorem dX11_stone_104 : decode cX11_stone 104 = .ok (.bipush 10, 2) := by decide +kernel
theorem dX11_stone_106 : decode cX11_stone 106 = .ok (.aload_n 0, 1) := by decide +kernel
theorem dX11_stone_107 : decode cX11_stone 107 = .ok (.getfield 86, 3) := by decide +kernel
theorem dX11_stone_110 : decode cX11_stone 110 = .ok (.imul, 1) := by decide +kernel
theorem dX11_stone_111 : decode cX11_stone 111 = .ok (.iconst 1, 1) := by decide +kernel
theorem dX11_stone_112 : decode cX11_stone 112 = .ok (.iadd, 1) := by decide +kernel
theorem dX11_stone_113 : decode cX11_stone 113 = .ok (.iload_n 2, 1) := by decide +kernel
theorem dX11_stone_114 : decode cX11_stone 114 = .ok (.iastore, 1) := by decide +kernel
theorem dX11_stone_115 : decode cX11_stone 115 = .ok (.aload_n 0, 1) := by decide +kernel
theorem dX11_stone_116 : decode cX11_stone 116 = .ok (.getfield 51, 3) := by decide +kernel
theorem dX11_stone_119 : decode cX11_stone 119 = .ok (.bipush 10, 2) := by decide +kernel
theorem dX11_stone_121 : decode cX11_stone 121 = .ok (.aload_n 0, 1) := by decide +kernel
theorem dX11_stone_122 : decode cX11_stone 122 = .ok (.getfield 86, 3) := by decide +kernel
theorem dX11_stone_125 : decode cX11_stone 125 = .ok (.imul, 1) := by decide +kernel
theorem dX11_stone_126 : decode cX11_stone 126 = .ok (.iconst 2, 1) := by decide +kernel
theorem dX11_stone_127 : decode cX11_stone 127 = .ok (.iadd, 1) := by decide +kernel
theorem dX11_stone_128 : decode cX11_stone 128 = .ok (.iconst (-1), 1) := by decide +kernel
theorem dX11_stone_129 : decode cX11_stone 129 = .ok (.iastore, 1) := by decide +kernel
theorem dX11_stone_130 : decode cX11_stone 130 = .ok (.aload_n 0, 1) := by decide +kernel
theorem dX11_stone_131 : decode cX11_stone 131 = .ok (.getfield 51, 3) := by decide +kernel
theorem dX11_stone_134 : decode cX11_stone 134 = .ok (.bipush 10, 2) := by decide +kernel
theorem dX11_stone_136 : decode cX11_stone 136 = .ok (.aload_n 0, 1) := by decide +kernel
theorem dX11_stone_137 : decode cX11_stone 137 = .ok (.getfield 86, 3) := by decide +kernel
theorem dX11_stone_140 : decode cX11_stone 140 = .ok (.imul, 1) := by decide +kernel
theorem dX11_stone_141 : decode cX11_stone 141 = .ok (.iconst 3, 1) := by decide +kernel
theorem dX11_stone_142 : decode cX11_stone 142 = .ok (.iadd, 1) := by decide +kernel
theorem dX11_stone_143 : decode cX11_stone 143 = .ok (.iconst (-1), 1) := by decide +kernel
theorem dX11_stone_144 : decode cX11_stone 144 = .ok (.iastore, 1) := by decide +kernel
theorem dX11_stone_145 : decode cX11_stone 145 = .ok (.iconst 0, 1) := by decide +kernel
theorem dX11_stone_146 : decode cX11_stone 146 = .ok (.istore_n 3, 1) := by decide +kernel
theorem dX11_stone_147 : decode cX11_stone 147 = .ok (.iload_n 3, 1) := by decide +kernel
theorem dX11_stone_148 : decode cX11_stone 148 = .ok (.bipush 6, 2) := by decide +kernel
theorem dX11_stone_150 : decode cX11_stone 150 = .ok (.if_icmp .ge 24, 3) := by decide +kernel
theorem dX11_stone_153 : decode cX11_stone 153 = .ok (.aload_n 0, 1) := by decide +kernel
theorem dX11_stone_154 : decode cX11_stone 154 = .ok (.getfield 54, 3) := by decide +kernel
theorem dX11_stone_157 : decode cX11_stone 157 = .ok (.bipush 6, 2) := by decide +kernel
theorem dX11_stone_159 : decode cX11_stone 159 = .ok (.aload_n 0, 1) := by decide +kernel
theorem dX11_stone_160 : decode cX11_stone 160 = .ok (.getfield 86, 3) := by decide +kernel
theorem dX11_stone_163 : decode cX11_stone 163 = .ok (.imul, 1) := by decide +kernel
theorem dX11_stone_164 : decode cX11_stone 164 = .ok (.iload_n 3, 1) := by decide +kernel
theorem dX11_stone_165 : decode cX11_stone 165 = .ok (.iadd, 1) := by decide +kernel
theorem dX11_stone_166 : decode cX11_stone 166 = .ok (.iconst (-1), 1) := by decide +kernel
theorem dX11_stone_167 : decode cX11_stone 167 = .ok (.iastore, 1) := by decide +kernel
theorem dX11_stone_168 : decode cX11_stone 168 = .ok (.iinc 3 1, 3) := by decide +kernel
theorem dX11_stone_171 : decode cX11_stone 171 = .ok (.goto (-24), 3) := by decide +kernel
theorem dX11_stone_174 : decode cX11_stone 174 = .ok (.aload_n 0, 1) := by decide +kernel
theorem dX11_stone_175 : decode cX11_stone 175 = .ok (.dup, 1) := by decide +kernel
theorem dX11_stone_176 : decode cX11_stone 176 = .ok (.getfield 86, 3) := by decide +kernel
theorem dX11_stone_179 : decode cX11_stone 179 = .ok (.iconst 1, 1) := by decide +kernel
theorem dX11_stone_180 : decode cX11_stone 180 = .ok (.iadd, 1) := by decide +kernel
theorem dX11_stone_181 : decode cX11_stone 181 = .ok (.putfield 86, 3) := by decide +kernel
theorem dX11_stone_184 : decode cX11_stone 184 = .ok (.aload_n 0, 1) := by decide +kernel
theorem dX11_stone_185 : decode cX11_stone 185 = .ok (.getfield 86, 3) := by decide +kernel
theorem dX11_stone_188 : decode cX11_stone 188 = .ok (.iconst 1, 1) := by decide +kernel
theorem dX11_stone_189 : decode cX11_stone 189 = .ok (.isub, 1) := by decide +kernel
theorem dX11_stone_190 : decode cX11_stone 190 = .ok (.ireturn, 1) := by decide +kernel
set_option maxHeartbeats 1000000 in
set_option maxRecDepth 20000 in
theorem ct_stone {l : Launch} {E : Ev} {P : Value → AH → Prop} {o : Nat} {ad : Nat → Nat} {F : Nat → Int32} {A : Nat → Nat → Int32} {h : AH} (I : mI o ad) {n : Nat} (hn : F 9 = nI n) (hn3 : n ≤ 30) {m : Nat} (hm : F 23 = nI m) (hm6 : m ≤ 60) {p b : Int32} (k1 : p < 0 ∨ F 9 - 1 < p → P (.int 0) (mh E o ad (upd (upd F 0 0) 0 1) A h)) (k2 : ∀ j, j < n → p = nI j → (b < 0 ∨ 99 < b) → P (.int 0) (mh E o ad (upd (upd F 0 0) 0 2) A h)) (k3 : ∀ j, j < n → p = nI j → ¬ (b < 0 ∨ 99 < b) → ¬ 0 < A 5 j → P (.int 0) (mh E o ad (upd (upd F 0 0) 0 3) A h)) (k4 : ∀ j, j < n → p = nI j → ¬ (b < 0 ∨ 99 < b) → 0 < A 5 j → m = 60 → P (.int 0) (mh E o ad (upd (upd F 0 0) 0 4) A h)) (k5 : ∀ j, j < n → p = nI j → ¬ (b < 0 ∨ 99 < b) → 0 < A 5 j → m < 60 → P (.int (nI m)) (mh E o ad (upd (upd F 0 0) 23 (nI (m + 1))) (aset (aset (aset (aset (aset (aset (aset (aset (aset (aset A 21 (10 * m + 0) p) 21 (10 * m + 1) b) 21 (10 * m + 2) (-1)) 21 (10 * m + 3) (-1)) 22 (6 * m + 0) (-1)) 22 (6 * m + 1) (-1)) 22 (6 * m + 2) (-1)) 22 (6 * m + 3) (-1)) 22 (6 * m + 4) (-1)) 22 (6 * m + 5) (-1)) h)) : Mt l E yX11_stone cX11_stone 4 (some .int) 9 197 0 0 [.ref o, .int p, .int b] (mh E o ad F A h) P := by
  refine Mt.of (by decide) (Nat.le_of_ble_eq_true rfl) ?_
  intro K hK hR C
  refine g_aload_n (n := 1) C dX11_stone_0 rfl rfl ?_
  refine g_iconst (n := 2) (v := 0) C dX11_stone_1 rfl (by decide) ?_
  refine m_put (n := 5) 0 C dX11_stone_2 rfl (by decide) w_1100 rfl rfl rfl mfs_0 ?_
  refine g_aload_n (n := 6) C dX11_stone_5 rfl rfl ?_
  refine g_aload_n (n := 7) C dX11_stone_6 rfl rfl ?_
  refine g_iload_n (n := 8) C dX11_stone_7 rfl rfl ?_
  refine g_callV (n := 11) (As := [.int _]) C dX11_stone_8 rfl mw_X11_noPit w_1296 (g_recv C mh_o rfl) rfl rfl (room hR rfl) (ct_noPit (fun za8 zb8 => ?_) (fun za8 => ?_))
  · --k8.0
    obtain ⟨j, hj, rfl⟩ := ix_of za8 zb8 (show upd F 0 0 9 = nI n from hn) (by omega)
    have hj30 : j < 30 := by omega
    refine g_iconst (n := 12) (v := 1) C dX11_stone_11 rfl (by decide) ?_
    refine g_callV (n := 15) (As := [.int _, .int _]) C dX11_stone_12 rfl mw_X11_throwsIf w_1257 (g_recv C mh_o rfl) rfl rfl (room hR rfl) (ct_throwsIf0 ?_)
    refine g_if_ne (n := 18) (t := 85) C dX11_stone_15 rfl (by decide) (fun zc15 => ?_) (fun zc15 => ?_)
    · exact absurd zc15 (by decide)
    refine g_aload_n (n := 19) C dX11_stone_18 rfl rfl ?_
    refine g_iload_n (n := 20) C dX11_stone_19 rfl rfl ?_
    refine g_iconst (n := 21) (v := 0) C dX11_stone_20 rfl (by decide) ?_
    refine g_bipush (n := 23) (v := 99) C dX11_stone_21 rfl (by decide) ?_
    refine g_callS (n := 26) (As := [.int _, .int _, .int _]) C dX11_stone_23 rfl mw_X11_in w_1273 rfl rfl (room hR rfl) (ct_in (fun za23 zb23 => ?_) (fun za23 => ?_) (fun za23 zb23 => ?_))
    · --k23.0
      refine g_if_ne (n := 29) (t := 33) C dX11_stone_26 rfl (by decide) (fun zc26 => ?_) (fun zc26 => ?_)
      rotate_left
      · exact absurd zc26 (by decide)
      refine g_iconst (n := 34) (v := 0) C dX11_stone_33 rfl (by decide) ?_
      refine g_iconst (n := 35) (v := 2) C dX11_stone_34 rfl (by decide) ?_
      refine g_callV (n := 38) (As := [.int _, .int _]) C dX11_stone_35 rfl mw_X11_throwsIf w_1257 (g_recv C mh_o rfl) rfl rfl (room hR rfl) (ct_throwsIf0 ?_)
      refine g_if_ne (n := 41) (t := 85) C dX11_stone_38 rfl (by decide) (fun zc38 => ?_) (fun zc38 => ?_)
      · exact absurd zc38 (by decide)
      refine g_aload_n (n := 42) C dX11_stone_41 rfl rfl ?_
      refine g_aload_n (n := 43) C dX11_stone_42 rfl rfl ?_
      refine m_get (n := 46) 5 C dX11_stone_43 rfl (by decide) rfl w_1105 rfl ?_
      refine g_iload_n (n := 47) C dX11_stone_46 rfl rfl ?_
      refine m_iald (n := 48) 5 (j) C dX11_stone_47 rfl I (by decide) rfl rfl (by omega) (by decide) rfl ?_
      refine g_if_gt (n := 51) (t := 55) C dX11_stone_48 rfl (by decide) (fun zc48 => ?_) (fun zc48 => ?_)
      · --t48
        refine g_iconst (n := 56) (v := 0) C dX11_stone_55 rfl (by decide) ?_
        refine g_iconst (n := 57) (v := 3) C dX11_stone_56 rfl (by decide) ?_
        refine g_callV (n := 60) (As := [.int _, .int _]) C dX11_stone_57 rfl mw_X11_throwsIf w_1257 (g_recv C mh_o rfl) rfl rfl (room hR rfl) (ct_throwsIf0 ?_)
        refine g_if_ne (n := 63) (t := 85) C dX11_stone_60 rfl (by decide) (fun zc60 => ?_) (fun zc60 => ?_)
        · exact absurd zc60 (by decide)
        refine g_aload_n (n := 64) C dX11_stone_63 rfl rfl ?_
        refine g_aload_n (n := 65) C dX11_stone_64 rfl rfl ?_
        refine m_get (n := 68) 23 C dX11_stone_65 rfl (by decide) rfl w_1123 rfl ?_
        refine g_bipush (n := 70) (v := 60) C dX11_stone_68 rfl (by decide) ?_
        refine g_icmp_ne (n := 73) (t := 77) C dX11_stone_70 rfl (by decide) (fun zc70 => ?_) (fun zc70 => ?_)
        · --t70
          refine g_iconst (n := 78) (v := 0) C dX11_stone_77 rfl (by decide) ?_
          refine g_iconst (n := 79) (v := 4) C dX11_stone_78 rfl (by decide) ?_
          refine g_callV (n := 82) (As := [.int _, .int _]) C dX11_stone_79 rfl mw_X11_throwsIf w_1257 (g_recv C mh_o rfl) rfl rfl (room hR rfl) (ct_throwsIf0 ?_)
          refine g_if_eq (n := 85) (t := 87) C dX11_stone_82 rfl (by decide) (fun zc82 => ?_) (fun zc82 => ?_)
          rotate_left
          · exact absurd zc82 (by decide)
          have hlt : m < 60 := n_lt (show upd F 0 0 23 = nI m from hm) (by assumption) rfl hm6
          refine g_aload_n (n := 88) C dX11_stone_87 rfl rfl ?_
          refine m_get (n := 91) 21 C dX11_stone_88 rfl (by decide) rfl w_1121 rfl ?_
          refine g_bipush (n := 93) (v := 10) C dX11_stone_91 rfl (by decide) ?_
          refine g_aload_n (n := 94) C dX11_stone_93 rfl rfl ?_
          refine m_get (n := 97) 23 C dX11_stone_94 rfl (by decide) rfl w_1123 rfl ?_
          refine g_imul (n := 98) C dX11_stone_97 rfl ?_
          refine g_iload_n (n := 99) C dX11_stone_98 rfl rfl ?_
          refine m_iast (n := 100) 21 (10 * m + 0) C dX11_stone_99 rfl I (by decide) (fun _ => rfl) (ix10z hm) (by omega) (by decide) ?_
          refine g_aload_n (n := 101) C dX11_stone_100 rfl rfl ?_
          refine m_get (n := 104) 21 C dX11_stone_101 rfl (by decide) rfl w_1121 rfl ?_
          refine g_bipush (n := 106) (v := 10) C dX11_stone_104 rfl (by decide) ?_
          refine g_aload_n (n := 107) C dX11_stone_106 rfl rfl ?_
          refine m_get (n := 110) 23 C dX11_stone_107 rfl (by decide) rfl w_1123 rfl ?_
          refine g_imul (n := 111) C dX11_stone_110 rfl ?_
          refine g_iconst (n := 112) (v := 1) C dX11_stone_111 rfl (by decide) ?_
          refine g_iadd (n := 113) C dX11_stone_112 rfl ?_
          refine g_iload_n (n := 114) C dX11_stone_113 rfl rfl ?_
          refine m_iast (n := 115) 21 (10 * m + 1) C dX11_stone_114 rfl I (by decide) (fun _ => rfl) (ix10 hm 1) (by omega) (by decide) ?_
          refine g_aload_n (n := 116) C dX11_stone_115 rfl rfl ?_
          refine m_get (n := 119) 21 C dX11_stone_116 rfl (by decide) rfl w_1121 rfl ?_
          refine g_bipush (n := 121) (v := 10) C dX11_stone_119 rfl (by decide) ?_
          refine g_aload_n (n := 122) C dX11_stone_121 rfl rfl ?_
          refine m_get (n := 125) 23 C dX11_stone_122 rfl (by decide) rfl w_1123 rfl ?_
          refine g_imul (n := 126) C dX11_stone_125 rfl ?_
          refine g_iconst (n := 127) (v := 2) C dX11_stone_126 rfl (by decide) ?_
          refine g_iadd (n := 128) C dX11_stone_127 rfl ?_
          refine g_iconst (n := 129) (v := (-1)) C dX11_stone_128 rfl (by decide) ?_
          refine m_iast (n := 130) 21 (10 * m + 2) C dX11_stone_129 rfl I (by decide) (fun _ => rfl) (ix10 hm 2) (by omega) (by decide) ?_
          refine g_aload_n (n := 131) C dX11_stone_130 rfl rfl ?_
          refine m_get (n := 134) 21 C dX11_stone_131 rfl (by decide) rfl w_1121 rfl ?_
          refine g_bipush (n := 136) (v := 10) C dX11_stone_134 rfl (by decide) ?_
          refine g_aload_n (n := 137) C dX11_stone_136 rfl rfl ?_
          refine m_get (n := 140) 23 C dX11_stone_137 rfl (by decide) rfl w_1123 rfl ?_
          refine g_imul (n := 141) C dX11_stone_140 rfl ?_
          refine g_iconst (n := 142) (v := 3) C dX11_stone_141 rfl (by decide) ?_
          refine g_iadd (n := 143) C dX11_stone_142 rfl ?_
          refine g_iconst (n := 144) (v := (-1)) C dX11_stone_143 rfl (by decide) ?_
          refine m_iast (n := 145) 21 (10 * m + 3) C dX11_stone_144 rfl I (by decide) (fun _ => rfl) (ix10 hm 3) (by omega) (by decide) ?_
          refine g_iconst (n := 146) (v := 0) C dX11_stone_145 rfl (by decide) ?_
          refine g_istore_n (n := 147) C dX11_stone_146 rfl (by decide) ?_
          refine g_iload_n (n := 148) C dX11_stone_147 rfl rfl ?_
          refine g_bipush (n := 150) (v := 6) C dX11_stone_148 rfl (by decide) ?_
          refine g_icmp_ge (n := 153) (t := 174) C dX11_stone_150 rfl (by decide) (fun zc150 => ?_) (fun zc150 => ?_)
          · exact absurd zc150 (by decide)
          refine g_aload_n (n := 154) C dX11_stone_153 rfl rfl ?_
          refine m_get (n := 157) 22 C dX11_stone_154 rfl (by decide) rfl w_1122 rfl ?_
          refine g_bipush (n := 159) (v := 6) C dX11_stone_157 rfl (by decide) ?_
          refine g_aload_n (n := 160) C dX11_stone_159 rfl rfl ?_
          refine m_get (n := 163) 23 C dX11_stone_160 rfl (by decide) rfl w_1123 rfl ?_
          refine g_imul (n := 164) C dX11_stone_163 rfl ?_
          refine g_iload_n (n := 165) C dX11_stone_164 rfl rfl ?_
          refine g_iadd (n := 166) C dX11_stone_165 rfl ?_
          refine g_iconst (n := 167) (v := (-1)) C dX11_stone_166 rfl (by decide) ?_
          refine m_iast (n := 168) 22 (6 * m + 0) C dX11_stone_167 rfl I (by decide) (fun _ => rfl) (ix6 hm 0) (by omega) (by decide) ?_
          refine g_iinc (n := 171) (v := 1) C dX11_stone_168 rfl rfl (by decide) (by decide) ?_
          refine g_goto (t := 147) C dX11_stone_171 (by decide) ?_
          refine g_iload_n (n := 148) C dX11_stone_147 rfl rfl ?_
          refine g_bipush (n := 150) (v := 6) C dX11_stone_148 rfl (by decide) ?_
          refine g_icmp_ge (n := 153) (t := 174) C dX11_stone_150 rfl (by decide) (fun zc150 => ?_) (fun zc150 => ?_)
          · exact absurd zc150 (by decide)
          refine g_aload_n (n := 154) C dX11_stone_153 rfl rfl ?_
          refine m_get (n := 157) 22 C dX11_stone_154 rfl (by decide) rfl w_1122 rfl ?_
          refine g_bipush (n := 159) (v := 6) C dX11_stone_157 rfl (by decide) ?_
          refine g_aload_n (n := 160) C dX11_stone_159 rfl rfl ?_
          refine m_get (n := 163) 23 C dX11_stone_160 rfl (by decide) rfl w_1123 rfl ?_
          refine g_imul (n := 164) C dX11_stone_163 rfl ?_
          refine g_iload_n (n := 165) C dX11_stone_164 rfl rfl ?_
          refine g_iadd (n := 166) C dX11_stone_165 rfl ?_
          refine g_iconst (n := 167) (v := (-1)) C dX11_stone_166 rfl (by decide) ?_
          refine m_iast (n := 168) 22 (6 * m + 1) C dX11_stone_167 rfl I (by decide) (fun _ => rfl) (ix6 hm 1) (by omega) (by decide) ?_
          refine g_iinc (n := 171) (v := 2) C dX11_stone_168 rfl rfl (by decide) (by decide) ?_
          refine g_goto (t := 147) C dX11_stone_171 (by decide) ?_
          refine g_iload_n (n := 148) C dX11_stone_147 rfl rfl ?_
          refine g_bipush (n := 150) (v := 6) C dX11_stone_148 rfl (by decide) ?_
          refine g_icmp_ge (n := 153) (t := 174) C dX11_stone_150 rfl (by decide) (fun zc150 => ?_) (fun zc150 => ?_)
          · exact absurd zc150 (by decide)
          refine g_aload_n (n := 154) C dX11_stone_153 rfl rfl ?_
          refine m_get (n := 157) 22 C dX11_stone_154 rfl (by decide) rfl w_1122 rfl ?_
          refine g_bipush (n := 159) (v := 6) C dX11_stone_157 rfl (by decide) ?_
          refine g_aload_n (n := 160) C dX11_stone_159 rfl rfl ?_
          refine m_get (n := 163) 23 C dX11_stone_160 rfl (by decide) rfl w_1123 rfl ?_
          refine g_imul (n := 164) C dX11_stone_163 rfl ?_
          refine g_iload_n (n := 165) C dX11_stone_164 rfl rfl ?_
          refine g_iadd (n := 166) C dX11_stone_165 rfl ?_
          refine g_iconst (n := 167) (v := (-1)) C dX11_stone_166 rfl (by decide) ?_
          refine m_iast (n := 168) 22 (6 * m + 2) C dX11_stone_167 rfl I (by decide) (fun _ => rfl) (ix6 hm 2) (by omega) (by decide) ?_
          refine g_iinc (n := 171) (v := 3) C dX11_stone_168 rfl rfl (by decide) (by decide) ?_
          refine g_goto (t := 147) C dX11_stone_171 (by decide) ?_
          refine g_iload_n (n := 148) C dX11_stone_147 rfl rfl ?_
          refine g_bipush (n := 150) (v := 6) C dX11_stone_148 rfl (by decide) ?_
          refine g_icmp_ge (n := 153) (t := 174) C dX11_stone_150 rfl (by decide) (fun zc150 => ?_) (fun zc150 => ?_)
          · exact absurd zc150 (by decide)
          refine g_aload_n (n := 154) C dX11_stone_153 rfl rfl ?_
          refine m_get (n := 157) 22 C dX11_stone_154 rfl (by decide) rfl w_1122 rfl ?_
          refine g_bipush (n := 159) (v := 6) C dX11_stone_157 rfl (by decide) ?_
          refine g_aload_n (n := 160) C dX11_stone_159 rfl rfl ?_
          refine m_get (n := 163) 23 C dX11_stone_160 rfl (by decide) rfl w_1123 rfl ?_
          refine g_imul (n := 164) C dX11_stone_163 rfl ?_
          refine g_iload_n (n := 165) C dX11_stone_164 rfl rfl ?_
          refine g_iadd (n := 166) C dX11_stone_165 rfl ?_
          refine g_iconst (n := 167) (v := (-1)) C dX11_stone_166 rfl (by decide) ?_
          refine m_iast (n := 168) 22 (6 * m + 3) C dX11_stone_167 rfl I (by decide) (fun _ => rfl) (ix6 hm 3) (by omega) (by decide) ?_
          refine g_iinc (n := 171) (v := 4) C dX11_stone_168 rfl rfl (by decide) (by decide) ?_
          refine g_goto (t := 147) C dX11_stone_171 (by decide) ?_
          refine g_iload_n (n := 148) C dX11_stone_147 rfl rfl ?_
          refine g_bipush (n := 150) (v := 6) C dX11_stone_148 rfl (by decide) ?_
          refine g_icmp_ge (n := 153) (t := 174) C dX11_stone_150 rfl (by decide) (fun zc150 => ?_) (fun zc150 => ?_)
          · exact absurd zc150 (by decide)
          refine g_aload_n (n := 154) C dX11_stone_153 rfl rfl ?_
          refine m_get (n := 157) 22 C dX11_stone_154 rfl (by decide) rfl w_1122 rfl ?_
          refine g_bipush (n := 159) (v := 6) C dX11_stone_157 rfl (by decide) ?_
          refine g_aload_n (n := 160) C dX11_stone_159 rfl rfl ?_
          refine m_get (n := 163) 23 C dX11_stone_160 rfl (by decide) rfl w_1123 rfl ?_
          refine g_imul (n := 164) C dX11_stone_163 rfl ?_
          refine g_iload_n (n := 165) C dX11_stone_164 rfl rfl ?_
          refine g_iadd (n := 166) C dX11_stone_165 rfl ?_
          refine g_iconst (n := 167) (v := (-1)) C dX11_stone_166 rfl (by decide) ?_
          refine m_iast (n := 168) 22 (6 * m + 4) C dX11_stone_167 rfl I (by decide) (fun _ => rfl) (ix6 hm 4) (by omega) (by decide) ?_
          refine g_iinc (n := 171) (v := 5) C dX11_stone_168 rfl rfl (by decide) (by decide) ?_
          refine g_goto (t := 147) C dX11_stone_171 (by decide) ?_
          refine g_iload_n (n := 148) C dX11_stone_147 rfl rfl ?_
          refine g_bipush (n := 150) (v := 6) C dX11_stone_148 rfl (by decide) ?_
          refine g_icmp_ge (n := 153) (t := 174) C dX11_stone_150 rfl (by decide) (fun zc150 => ?_) (fun zc150 => ?_)
          · exact absurd zc150 (by decide)
          refine g_aload_n (n := 154) C dX11_stone_153 rfl rfl ?_
          refine m_get (n := 157) 22 C dX11_stone_154 rfl (by decide) rfl w_1122 rfl ?_
          refine g_bipush (n := 159) (v := 6) C dX11_stone_157 rfl (by decide) ?_
          refine g_aload_n (n := 160) C dX11_stone_159 rfl rfl ?_
          refine m_get (n := 163) 23 C dX11_stone_160 rfl (by decide) rfl w_1123 rfl ?_
          refine g_imul (n := 164) C dX11_stone_163 rfl ?_
          refine g_iload_n (n := 165) C dX11_stone_164 rfl rfl ?_
          refine g_iadd (n := 166) C dX11_stone_165 rfl ?_
          refine g_iconst (n := 167) (v := (-1)) C dX11_stone_166 rfl (by decide) ?_
          refine m_iast (n := 168) 22 (6 * m + 5) C dX11_stone_167 rfl I (by decide) (fun _ => rfl) (ix6 hm 5) (by omega) (by decide) ?_
          refine g_iinc (n := 171) (v := 6) C dX11_stone_168 rfl rfl (by decide) (by decide) ?_
          refine g_goto (t := 147) C dX11_stone_171 (by decide) ?_
          refine g_iload_n (n := 148) C dX11_stone_147 rfl rfl ?_
          refine g_bipush (n := 150) (v := 6) C dX11_stone_148 rfl (by decide) ?_
          refine g_icmp_ge (n := 153) (t := 174) C dX11_stone_150 rfl (by decide) (fun zc150 => ?_) (fun zc150 => ?_)
          rotate_left
          · exact absurd zc150 (by decide)
          refine g_aload_n (n := 175) C dX11_stone_174 rfl rfl ?_
          refine g_dup (n := 176) C dX11_stone_175 rfl rfl ?_
          refine m_get (n := 179) 23 C dX11_stone_176 rfl (by decide) rfl w_1123 rfl ?_
          refine g_iconst (n := 180) (v := 1) C dX11_stone_179 rfl (by decide) ?_
          refine g_iadd (n := 181) C dX11_stone_180 rfl ?_
          refine m_put (n := 184) 23 C dX11_stone_181 rfl (by decide) w_1123 rfl rfl rfl mfs_23 ?_
          refine g_aload_n (n := 185) C dX11_stone_184 rfl rfl ?_
          refine m_get (n := 188) 23 C dX11_stone_185 rfl (by decide) rfl w_1123 rfl ?_
          refine g_iconst (n := 189) (v := 1) C dX11_stone_188 rfl (by decide) ?_
          refine g_isub (n := 190) C dX11_stone_189 rfl ?_
          refine g_iret C dX11_stone_190 (by decide) (by decide) ?_
          have e1 : upd F 0 0 23 + 1 = nI (m + 1) := by
            show F 23 + 1 = _
            rw [hm]; exact nI_1 m
          have e2 : nI (m + 1) - 1 = nI m := nI_pred m
          rw [e1]
          show P (.int (nI (m + 1) - 1)) _
          rw [e2]
          exact k5 j hj rfl (n_or (by assumption) (by assumption)) (by assumption) hlt
        · --f70
          refine g_iconst (n := 74) (v := 1) C dX11_stone_73 rfl (by decide) ?_
          refine g_goto (t := 78) C dX11_stone_74 (by decide) ?_
          refine g_iconst (n := 79) (v := 4) C dX11_stone_78 rfl (by decide) ?_
          refine g_callV (n := 82) (As := [.int _, .int _]) C dX11_stone_79 rfl mw_X11_throwsIf w_1257 (g_recv C mh_o rfl) rfl rfl (room hR rfl) (ct_throwsIf1 ?_)
          refine g_if_eq (n := 85) (t := 87) C dX11_stone_82 rfl (by decide) (fun zc82 => ?_) (fun zc82 => ?_)
          · exact absurd zc82 (by decide)
          refine g_iconst (n := 86) (v := 0) C dX11_stone_85 rfl (by decide) ?_
          refine g_iret C dX11_stone_86 (by decide) (by decide) ?_
          first | exact k1 (by assumption) | exact k2 j hj rfl (Or.inl (by assumption)) | exact k2 j hj rfl (Or.inr (by assumption)) | exact k3 j hj rfl (n_or (by assumption) (by assumption)) (by assumption) | exact k4 j hj rfl (n_or (by assumption) (by assumption)) (by assumption) (n_eq (show upd F 0 0 23 = nI m from hm) (by assumption) rfl (by omega) (by decide))
      · --f48
        refine g_iconst (n := 52) (v := 1) C dX11_stone_51 rfl (by decide) ?_
        refine g_goto (t := 56) C dX11_stone_52 (by decide) ?_
        refine g_iconst (n := 57) (v := 3) C dX11_stone_56 rfl (by decide) ?_
        refine g_callV (n := 60) (As := [.int _, .int _]) C dX11_stone_57 rfl mw_X11_throwsIf w_1257 (g_recv C mh_o rfl) rfl rfl (room hR rfl) (ct_throwsIf1 ?_)
        refine g_if_ne (n := 63) (t := 85) C dX11_stone_60 rfl (by decide) (fun zc60 => ?_) (fun zc60 => ?_)
        rotate_left
        · exact absurd zc60 (by decide)
        refine g_iconst (n := 86) (v := 0) C dX11_stone_85 rfl (by decide) ?_
        refine g_iret C dX11_stone_86 (by decide) (by decide) ?_
        first | exact k1 (by assumption) | exact k2 j hj rfl (Or.inl (by assumption)) | exact k2 j hj rfl (Or.inr (by assumption)) | exact k3 j hj rfl (n_or (by assumption) (by assumption)) (by assumption) | exact k4 j hj rfl (n_or (by assumption) (by assumption)) (by assumption) (n_eq (show upd F 0 0 23 = nI m from hm) (by assumption) rfl (by omega) (by decide))
    · --k23.1
      refine g_if_ne (n := 29) (t := 33) C dX11_stone_26 rfl (by decide) (fun zc26 => ?_) (fun zc26 => ?_)
      · exact absurd zc26 (by decide)
      refine g_iconst (n := 30) (v := 1) C dX11_stone_29 rfl (by decide) ?_
      refine g_goto (t := 34) C dX11_stone_30 (by decide) ?_
      refine g_iconst (n := 35) (v := 2) C dX11_stone_34 rfl (by decide) ?_
      refine g_callV (n := 38) (As := [.int _, .int _]) C dX11_stone_35 rfl mw_X11_throwsIf w_1257 (g_recv C mh_o rfl) rfl rfl (room hR rfl) (ct_throwsIf1 ?_)
      refine g_if_ne (n := 41) (t := 85) C dX11_stone_38 rfl (by decide) (fun zc38 => ?_) (fun zc38 => ?_)
      rotate_left
      · exact absurd zc38 (by decide)
      refine g_iconst (n := 86) (v := 0) C dX11_stone_85 rfl (by decide) ?_
      refine g_iret C dX11_stone_86 (by decide) (by decide) ?_
      first | exact k1 (by assumption) | exact k2 j hj rfl (Or.inl (by assumption)) | exact k2 j hj rfl (Or.inr (by assumption)) | exact k3 j hj rfl (n_or (by assumption) (by assumption)) (by assumption) | exact k4 j hj rfl (n_or (by assumption) (by assumption)) (by assumption) (n_eq (show upd F 0 0 23 = nI m from hm) (by assumption) rfl (by omega) (by decide))
    · --k23.2
      refine g_if_ne (n := 29) (t := 33) C dX11_stone_26 rfl (by decide) (fun zc26 => ?_) (fun zc26 => ?_)
      · exact absurd zc26 (by decide)
      refine g_iconst (n := 30) (v := 1) C dX11_stone_29 rfl (by decide) ?_
      refine g_goto (t := 34) C dX11_stone_30 (by decide) ?_
      refine g_iconst (n := 35) (v := 2) C dX11_stone_34 rfl (by decide) ?_
      refine g_callV (n := 38) (As := [.int _, .int _]) C dX11_stone_35 rfl mw_X11_throwsIf w_1257 (g_recv C mh_o rfl) rfl rfl (room hR rfl) (ct_throwsIf1 ?_)
      refine g_if_ne (n := 41) (t := 85) C dX11_stone_38 rfl (by decide) (fun zc38 => ?_) (fun zc38 => ?_)
      rotate_left
      · exact absurd zc38 (by decide)
      refine g_iconst (n := 86) (v := 0) C dX11_stone_85 rfl (by decide) ?_
      refine g_iret C dX11_stone_86 (by decide) (by decide) ?_
      first | exact k1 (by assumption) | exact k2 j hj rfl (Or.inl (by assumption)) | exact k2 j hj rfl (Or.inr (by assumption)) | exact k3 j hj rfl (n_or (by assumption) (by assumption)) (by assumption) | exact k4 j hj rfl (n_or (by assumption) (by assumption)) (by assumption) (n_eq (show upd F 0 0 23 = nI m from hm) (by assumption) rfl (by omega) (by decide))
  · --k8.1
    refine g_iconst (n := 12) (v := 1) C dX11_stone_11 rfl (by decide) ?_
    refine g_callV (n := 15) (As := [.int _, .int _]) C dX11_stone_12 rfl mw_X11_throwsIf w_1257 (g_recv C mh_o rfl) rfl rfl (room hR rfl) (ct_throwsIf1 ?_)
    refine g_if_ne (n := 18) (t := 85) C dX11_stone_15 rfl (by decide) (fun zc15 => ?_) (fun zc15 => ?_)
    rotate_left
    · exact absurd zc15 (by decide)
    refine g_iconst (n := 86) (v := 0) C dX11_stone_85 rfl (by decide) ?_
    refine g_iret C dX11_stone_86 (by decide) (by decide) ?_
    first | exact k1 (by assumption) | exact k2 j hj rfl (Or.inl (by assumption)) | exact k2 j hj rfl (Or.inr (by assumption)) | exact k3 j hj rfl (n_or (by assumption) (by assumption)) (by assumption) | exact k4 j hj rfl (n_or (by assumption) (by assumption)) (by assumption) (n_eq (show upd F 0 0 23 = nI m from hm) (by assumption) rfl (by omega) (by decide))
theorem dX11_lay_0 : decode cX11_lay 0 = .ok (.aload_n 0, 1) := by decide +kernel
theorem dX11_lay_1 : decode cX11_lay 1 = .ok (.iconst 0, 1) := by decide +kernel
theorem dX11_lay_2 : decode cX11_lay 2 = .ok (.putfield 76, 3) := by decide +kernel
theorem dX11_lay_5 : decode cX11_lay 5 = .ok (.aload_n 0, 1) := by decide +kernel
theorem dX11_lay_6 : decode cX11_lay 6 = .ok (.iload_n 1, 1) := by decide +kernel
theorem dX11_lay_7 : decode cX11_lay 7 = .ok (.iconst 0, 1) := by decide +kernel
theorem dX11_lay_8 : decode cX11_lay 8 = .ok (.ldc 133, 2) := by decide +kernel
theorem dX11_lay_10 : decode cX11_lay 10 = .ok (.invokestatic 79, 3) := by decide +kernel
theorem dX11_lay_13 : decode cX11_lay 13 = .ok (.ifCond .eq 14, 3) := by decide +kernel
theorem dX11_lay_16 : decode cX11_lay 16 = .ok (.aload_n 0, 1) := by decide +kernel
theorem dX11_lay_17 : decode cX11_lay 17 = .ok (.getfield 206, 3) := by decide +kernel
theorem dX11_lay_20 : decode cX11_lay 20 = .ok (.iload_n 1, 1) := by decide +kernel
theorem dX11_lay_21 : decode cX11_lay 21 = .ok (.iadd, 1) := by decide +kernel
theorem dX11_lay_22 : decode cX11_lay 22 = .ok (.ldc 208, 2) := by decide +kernel
theorem dX11_lay_24 : decode cX11_lay 24 = .ok (.if_icmp .le 7, 3) := by decide +kernel
theorem dX11_lay_27 : decode cX11_lay 27 = .ok (.iconst 1, 1) := by decide +kernel
theorem dX11_lay_28 : decode cX11_lay 28 = .ok (.goto 4, 3) := by decide +kernel
theorem dX11_lay_31 : decode cX11_lay 31 = .ok (.iconst 0, 1) := by decide +kernel
theorem dX11_lay_32 : decode cX11_lay 32 = .ok (.iconst 1, 1) := by decide +kernel
theorem dX11_lay_33 : decode cX11_lay 33 = .ok (.invokevirtual 162, 3) := by decide +kernel
theorem dX11_lay_36 : decode cX11_lay 36 = .ok (.ifCond .eq 5, 3) := by decide +kernel
theorem dX11_lay_39 : decode cX11_lay 39 = .ok (.iconst 0, 1) := by decide +kernel
theorem dX11_lay_40 : decode cX11_lay 40 = .ok (.ireturn, 1) := by decide +kernel
theorem dX11_lay_41 : decode cX11_lay 41 = .ok (.aload_n 0, 1) := by decide +kernel
theorem dX11_lay_42 : decode cX11_lay 42 = .ok (.dup, 1) := by decide +kernel
theorem dX11_lay_43 : decode cX11_lay 43 = .ok (.getfield 206, 3) := by decide +kernel
theorem dX11_lay_46 : decode cX11_lay 46 = .ok (.iload_n 1, 1) := by decide +kernel
theorem dX11_lay_47 : decode cX11_lay 47 = .ok (.iadd, 1) := by decide +kernel
theorem dX11_lay_48 : decode cX11_lay 48 = .ok (.putfield 206, 3) := by decide +kernel
theorem dX11_lay_51 : decode cX11_lay 51 = .ok (.aload_n 0, 1) := by decide +kernel
theorem dX11_lay_52 : decode cX11_lay 52 = .ok (.getfield 206, 3) := by decide +kernel
theorem dX11_lay_55 : decode cX11_lay 55 = .ok (.ireturn, 1) := by decide +kernel
set_option maxHeartbeats 400000 in
set_option maxRecDepth 20000 in
theorem ct_lay {l : Launch} {E : Ev} {P : Value → AH → Prop} {o : Nat} {ad : Nat → Nat} {F : Nat → Int32} {A : Nat → Nat → Int32} {h : AH} {p : Int32} (k1 : (p < 0 ∨ 100000 < p) ∨ 10000000 < F 24 + p → P (.int 0) (mh E o ad (upd (upd F 0 0) 0 1) A h)) (k2 : ¬ ((p < 0 ∨ 100000 < p) ∨ 10000000 < F 24 + p) → P (.int (F 24 + p)) (mh E o ad (upd (upd F 0 0) 24 (F 24 + p)) A h)) : Mt l E yX11_lay cX11_lay 2 (some .int) 7 111 0 0 [.ref o, .int p] (mh E o ad F A h) P := by
  refine Mt.of (by decide) (Nat.le_of_ble_eq_true rfl) ?_
  intro K hK hR C
  refine g_aload_n (n := 1) C dX11_lay_0 rfl rfl ?_
  refine g_iconst (n := 2) (v := 0) C dX11_lay_1 rfl (by decide) ?_
  refine m_put (n := 5) 0 C dX11_lay_2 rfl (by decide) w_1100 rfl rfl rfl mfs_0 ?_
  refine g_aload_n (n := 6) C dX11_lay_5 rfl rfl ?_
  refine g_iload_n (n := 7) C dX11_lay_6 rfl rfl ?_
  refine g_iconst (n := 8) (v := 0) C dX11_lay_7 rfl (by decide) ?_
  refine g_ldc (n := 10) C dX11_lay_8 rfl w_1243 ?_
  refine g_callS (n := 13) (As := [.int _, .int _, .int _]) C dX11_lay_10 rfl mw_X11_in w_1273 rfl rfl (room hR rfl) (ct_in (fun za10 zb10 => ?_) (fun za10 => ?_) (fun za10 zb10 => ?_))
  · --k10.0
    refine g_if_eq (n := 16) (t := 27) C dX11_lay_13 rfl (by decide) (fun zc13 => ?_) (fun zc13 => ?_)
    · exact absurd zc13 (by decide)
    refine g_aload_n (n := 17) C dX11_lay_16 rfl rfl ?_
    refine m_get (n := 20) 24 C dX11_lay_17 rfl (by decide) rfl w_1124 rfl ?_
    refine g_iload_n (n := 21) C dX11_lay_20 rfl rfl ?_
    refine g_iadd (n := 22) C dX11_lay_21 rfl ?_
    refine g_ldc (n := 24) C dX11_lay_22 rfl w_1341 ?_
    refine g_icmp_le (n := 27) (t := 31) C dX11_lay_24 rfl (by decide) (fun zc24 => ?_) (fun zc24 => ?_)
    · --t24
      refine g_iconst (n := 32) (v := 0) C dX11_lay_31 rfl (by decide) ?_
      refine g_iconst (n := 33) (v := 1) C dX11_lay_32 rfl (by decide) ?_
      refine g_callV (n := 36) (As := [.int _, .int _]) C dX11_lay_33 rfl mw_X11_throwsIf w_1257 (g_recv C mh_o rfl) rfl rfl (room hR rfl) (ct_throwsIf0 ?_)
      refine g_if_eq (n := 39) (t := 41) C dX11_lay_36 rfl (by decide) (fun zc36 => ?_) (fun zc36 => ?_)
      rotate_left
      · exact absurd zc36 (by decide)
      refine g_aload_n (n := 42) C dX11_lay_41 rfl rfl ?_
      refine g_dup (n := 43) C dX11_lay_42 rfl rfl ?_
      refine m_get (n := 46) 24 C dX11_lay_43 rfl (by decide) rfl w_1124 rfl ?_
      refine g_iload_n (n := 47) C dX11_lay_46 rfl rfl ?_
      refine g_iadd (n := 48) C dX11_lay_47 rfl ?_
      refine m_put (n := 51) 24 C dX11_lay_48 rfl (by decide) w_1124 rfl rfl rfl mfs_24 ?_
      refine g_aload_n (n := 52) C dX11_lay_51 rfl rfl ?_
      refine m_get (n := 55) 24 C dX11_lay_52 rfl (by decide) rfl w_1124 rfl ?_
      refine g_iret C dX11_lay_55 (by decide) (by decide) ?_
      first | exact k1 (Or.inl (Or.inl (by assumption))) | exact k1 (Or.inl (Or.inr (by assumption))) | exact k1 (Or.inr (by assumption)) | exact k2 (n_or (n_or (by assumption) (by assumption)) (Int32.not_lt.mpr (by assumption))) | exact k1 (Or.inr (Int32.not_le.mp (by assumption)))
    · --f24
      refine g_iconst (n := 28) (v := 1) C dX11_lay_27 rfl (by decide) ?_
      refine g_goto (t := 32) C dX11_lay_28 (by decide) ?_
      refine g_iconst (n := 33) (v := 1) C dX11_lay_32 rfl (by decide) ?_
      refine g_callV (n := 36) (As := [.int _, .int _]) C dX11_lay_33 rfl mw_X11_throwsIf w_1257 (g_recv C mh_o rfl) rfl rfl (room hR rfl) (ct_throwsIf1 ?_)
      refine g_if_eq (n := 39) (t := 41) C dX11_lay_36 rfl (by decide) (fun zc36 => ?_) (fun zc36 => ?_)
      · exact absurd zc36 (by decide)
      refine g_iconst (n := 40) (v := 0) C dX11_lay_39 rfl (by decide) ?_
      refine g_iret C dX11_lay_40 (by decide) (by decide) ?_
      first | exact k1 (Or.inl (Or.inl (by assumption))) | exact k1 (Or.inl (Or.inr (by assumption))) | exact k1 (Or.inr (by assumption)) | exact k2 (n_or (n_or (by assumption) (by assumption)) (Int32.not_lt.mpr (by assumption))) | exact k1 (Or.inr (Int32.not_le.mp (by assumption)))
  · --k10.1
    refine g_if_eq (n := 16) (t := 27) C dX11_lay_13 rfl (by decide) (fun zc13 => ?_) (fun zc13 => ?_)
    rotate_left
    · exact absurd zc13 (by decide)
    refine g_iconst (n := 28) (v := 1) C dX11_lay_27 rfl (by decide) ?_
    refine g_goto (t := 32) C dX11_lay_28 (by decide) ?_
    refine g_iconst (n := 33) (v := 1) C dX11_lay_32 rfl (by decide) ?_
    refine g_callV (n := 36) (As := [.int _, .int _]) C dX11_lay_33 rfl mw_X11_throwsIf w_1257 (g_recv C mh_o rfl) rfl rfl (room hR rfl) (ct_throwsIf1 ?_)
    refine g_if_eq (n := 39) (t := 41) C dX11_lay_36 rfl (by decide) (fun zc36 => ?_) (fun zc36 => ?_)
    · exact absurd zc36 (by decide)
    refine g_iconst (n := 40) (v := 0) C dX11_lay_39 rfl (by decide) ?_
    refine g_iret C dX11_lay_40 (by decide) (by decide) ?_
    first | exact k1 (Or.inl (Or.inl (by assumption))) | exact k1 (Or.inl (Or.inr (by assumption))) | exact k1 (Or.inr (by assumption)) | exact k2 (n_or (n_or (by assumption) (by assumption)) (Int32.not_lt.mpr (by assumption))) | exact k1 (Or.inr (Int32.not_le.mp (by assumption)))
  · --k10.2
    refine g_if_eq (n := 16) (t := 27) C dX11_lay_13 rfl (by decide) (fun zc13 => ?_) (fun zc13 => ?_)
    rotate_left
    · exact absurd zc13 (by decide)
    refine g_iconst (n := 28) (v := 1) C dX11_lay_27 rfl (by decide) ?_
    refine g_goto (t := 32) C dX11_lay_28 (by decide) ?_
    refine g_iconst (n := 33) (v := 1) C dX11_lay_32 rfl (by decide) ?_
    refine g_callV (n := 36) (As := [.int _, .int _]) C dX11_lay_33 rfl mw_X11_throwsIf w_1257 (g_recv C mh_o rfl) rfl rfl (room hR rfl) (ct_throwsIf1 ?_)
    refine g_if_eq (n := 39) (t := 41) C dX11_lay_36 rfl (by decide) (fun zc36 => ?_) (fun zc36 => ?_)
    · exact absurd zc36 (by decide)
    refine g_iconst (n := 40) (v := 0) C dX11_lay_39 rfl (by decide) ?_
    refine g_iret C dX11_lay_40 (by decide) (by decide) ?_
    first | exact k1 (Or.inl (Or.inl (by assumption))) | exact k1 (Or.inl (Or.inr (by assumption))) | exact k1 (Or.inr (by assumption)) | exact k2 (n_or (n_or (by assumption) (by assumption)) (Int32.not_lt.mpr (by assumption))) | exact k1 (Or.inr (Int32.not_le.mp (by assumption)))
theorem dX11_hand_0 : decode cX11_hand 0 = .ok (.aload_n 0, 1) := by decide +kernel
theorem dX11_hand_1 : decode cX11_hand 1 = .ok (.iconst 0, 1) := by decide +kernel
theorem dX11_hand_2 : decode cX11_hand 2 = .ok (.putfield 76, 3) := by decide +kernel
theorem dX11_hand_5 : decode cX11_hand 5 = .ok (.aload_n 0, 1) := by decide +kernel
theorem dX11_hand_6 : decode cX11_hand 6 = .ok (.aload_n 0, 1) := by decide +kernel
theorem dX11_hand_7 : decode cX11_hand 7 = .ok (.iload_n 1, 1) := by decide +kernel
theorem dX11_hand_8 : decode cX11_hand 8 = .ok (.invokevirtual 209, 3) := by decide +kernel
theorem dX11_hand_11 : decode cX11_hand 11 = .ok (.ifCond .ne 12, 3) := by decide +kernel
theorem dX11_hand_14 : decode cX11_hand 14 = .ok (.iload_n 2, 1) := by decide +kernel
theorem dX11_hand_15 : decode cX11_hand 15 = .ok (.iconst 0, 1) := by decide +kernel
theorem dX11_hand_16 : decode cX11_hand 16 = .ok (.iconst 5, 1) := by decide +kernel
theorem dX11_hand_17 : decode cX11_hand 17 = .ok (.invokestatic 79, 3) := by decide +kernel
theorem dX11_hand_20 : decode cX11_hand 20 = .ok (.ifCond .ne 7, 3) := by decide +kernel
theorem dX11_hand_23 : decode cX11_hand 23 = .ok (.iconst 1, 1) := by decide +kernel
theorem dX11_hand_24 : decode cX11_hand 24 = .ok (.goto 4, 3) := by decide +kernel
theorem dX11_hand_27 : decode cX11_hand 27 = .ok (.iconst 0, 1) := by decide +kernel
theorem dX11_hand_28 : decode cX11_hand 28 = .ok (.iconst 1, 1) := by decide +kernel
theorem dX11_hand_29 : decode cX11_hand 29 = .ok (.invokevirtual 162, 3) := by decide +kernel
theorem dX11_hand_32 : decode cX11_hand 32 = .ok (.ifCond .ne 40, 3) := by decide +kernel
theorem dX11_hand_35 : decode cX11_hand 35 = .ok (.aload_n 0, 1) := by decide +kernel
theorem dX11_hand_36 : decode cX11_hand 36 = .ok (.iload_n 3, 1) := by decide +kernel
theorem dX11_hand_37 : decode cX11_hand 37 = .ok (.iconst 0, 1) := by decide +kernel
theorem dX11_hand_38 : decode cX11_hand 38 = .ok (.ldc 212, 2) := by decide +kernel
theorem dX11_hand_40 : decode cX11_hand 40 = .ok (.invokestatic 79, 3) := by decide +kernel
theorem dX11_hand_43 : decode cX11_hand 43 = .ok (.ifCond .ne 7, 3) := by decide +kernel
theorem dX11_hand_46 : decode cX11_hand 46 = .ok (.iconst 1, 1) := by decide +kernel
theorem dX11_hand_47 : decode cX11_hand 47 = .ok (.goto 4, 3) := by decide +kernel
theorem dX11_hand_50 : decode cX11_hand 50 = .ok (.iconst 0, 1) := by decide +kernel
theorem dX11_hand_51 : decode cX11_hand 51 = .ok (.iconst 2, 1) := by decide +kernel
theorem dX11_hand_52 : decode cX11_hand 52 = .ok (.invokevirtual 162, 3) := by decide +kernel
theorem dX11_hand_55 : decode cX11_hand 55 = .ok (.ifCond .ne 17, 3) := by decide +kernel
theorem dX11_hand_58 : decode cX11_hand 58 = .ok (.aload_n 0, 1) := by decide +kernel
theorem dX11_hand_59 : decode cX11_hand 59 = .ok (.getfield 51, 3) := by decide +kernel
theorem dX11_hand_62 : decode cX11_hand 62 = .ok (.bipush 10, 2) := by decide +kernel
theorem dX11_hand_64 : decode cX11_hand 64 = .ok (.iload_n 1, 1) := by decide +kernel
theorem dX11_hand_65 : decode cX11_hand 65 = .ok (.imul, 1) := by decide +kernel
theorem dX11_hand_66 : decode cX11_hand 66 = .ok (.iconst 2, 1) := by decide +kernel
theorem dX11_hand_67 : decode cX11_hand 67 = .ok (.iadd, 1) := by decide +kernel
theorem dX11_hand_68 : decode cX11_hand 68 = .ok (.iaload, 1) := by decide +kernel
theorem dX11_hand_69 : decode cX11_hand 69 = .ok (.ifCond .lt 5, 3) := by decide +kernel
theorem dX11_hand_72 : decode cX11_hand 72 = .ok (.iconst 0, 1) := by decide +kernel
theorem dX11_hand_73 : decode cX11_hand 73 = .ok (.ireturn, 1) := by decide +kernel
theorem dX11_hand_74 : decode cX11_hand 74 = .ok (.aload_n 0, 1) := by decide +kernel
theorem dX11_hand_75 : decode cX11_hand 75 = .ok (.getfield 54, 3) := by decide +kernel
theorem dX11_hand_78 : decode cX11_hand 78 = .ok (.bipush 6, 2) := by decide +kernel
theorem dX11_hand_80 : decode cX11_hand 80 = .ok (.iload_n 1, 1) := by decide +kernel
theorem dX11_hand_81 : decode cX11_hand 81 = .ok (.imul, 1) := by decide +kernel
theorem dX11_hand_82 : decode cX11_hand 82 = .ok (.iload_n 2, 1) := by decide +kernel
theorem dX11_hand_83 : decode cX11_hand 83 = .ok (.iadd, 1) := by decide +kernel
theorem dX11_hand_84 : decode cX11_hand 84 = .ok (.iload_n 3, 1) := by decide +kernel
theorem dX11_hand_85 : decode cX11_hand 85 = .ok (.iastore, 1) := by decide +kernel
theorem dX11_hand_86 : decode cX11_hand 86 = .ok (.iconst 1, 1) := by decide +kernel
theorem dX11_hand_87 : decode cX11_hand 87 = .ok (.ireturn, 1) := by decide +kernel
set_option maxHeartbeats 400000 in
set_option maxRecDepth 20000 in
theorem ct_hand {l : Launch} {E : Ev} {P : Value → AH → Prop} {o : Nat} {ad : Nat → Nat} {F : Nat → Int32} {A : Nat → Nat → Int32} {h : AH} (I : mI o ad) {m : Nat} (hm : F 23 = nI m) (hm6 : m ≤ 60) {s b x : Int32} (k1 : s < 0 ∨ F 23 - 1 < s → P (.int 0) (mh E o ad (upd (upd F 0 0) 0 1) A h)) (k2 : ∀ j, j < m → s = nI j → (b < 0 ∨ 5 < b) → P (.int 0) (mh E o ad (upd (upd F 0 0) 0 1) A h)) (k3 : ∀ j, j < m → s = nI j → ∀ i, i < 6 → b = nI i → (x < 0 ∨ 1000000 < x) → P (.int 0) (mh E o ad (upd (upd F 0 0) 0 2) A h)) (k4 : ∀ j, j < m → s = nI j → ∀ i, i < 6 → b = nI i → ¬ (x < 0 ∨ 1000000 < x) → ¬ A 21 (10 * j + 2) < 0 → P (.int 0) (mh E o ad (upd F 0 0) A h)) (k5 : ∀ j, j < m → s = nI j → ∀ i, i < 6 → b = nI i → ¬ (x < 0 ∨ 1000000 < x) → A 21 (10 * j + 2) < 0 → P (.int 1) (mh E o ad (upd F 0 0) (aset A 22 (6 * j + i) x) h)) : Mt l E yX11_hand cX11_hand 4 (some .boolean) 8 135 0 0 [.ref o, .int s, .int b, .int x] (mh E o ad F A h) P := by
  refine Mt.of (by decide) (Nat.le_of_ble_eq_true rfl) ?_
  intro K hK hR C
  refine g_aload_n (n := 1) C dX11_hand_0 rfl rfl ?_
  refine g_iconst (n := 2) (v := 0) C dX11_hand_1 rfl (by decide) ?_
  refine m_put (n := 5) 0 C dX11_hand_2 rfl (by decide) w_1100 rfl rfl rfl mfs_0 ?_
  refine g_aload_n (n := 6) C dX11_hand_5 rfl rfl ?_
  refine g_aload_n (n := 7) C dX11_hand_6 rfl rfl ?_
  refine g_iload_n (n := 8) C dX11_hand_7 rfl rfl ?_
  refine g_callV (n := 11) (As := [.int _]) C dX11_hand_8 rfl mw_X11_noStone w_1346 (g_recv C mh_o rfl) rfl rfl (room hR rfl) (ct_noStone (fun za8 zb8 => ?_) (fun za8 => ?_))
  · --k8.0
    obtain ⟨j, hj, rfl⟩ := ix_of za8 zb8 (show upd F 0 0 23 = nI m from hm) (by omega)
    refine g_if_ne (n := 14) (t := 23) C dX11_hand_11 rfl (by decide) (fun zc11 => ?_) (fun zc11 => ?_)
    · exact absurd zc11 (by decide)
    refine g_iload_n (n := 15) C dX11_hand_14 rfl rfl ?_
    refine g_iconst (n := 16) (v := 0) C dX11_hand_15 rfl (by decide) ?_
    refine g_iconst (n := 17) (v := 5) C dX11_hand_16 rfl (by decide) ?_
    refine g_callS (n := 20) (As := [.int _, .int _, .int _]) C dX11_hand_17 rfl mw_X11_in w_1273 rfl rfl (room hR rfl) (ct_in (fun za17 zb17 => ?_) (fun za17 => ?_) (fun za17 zb17 => ?_))
    · --k17.0
      refine g_if_ne (n := 23) (t := 27) C dX11_hand_20 rfl (by decide) (fun zc20 => ?_) (fun zc20 => ?_)
      rotate_left
      · exact absurd zc20 (by decide)
      refine g_iconst (n := 28) (v := 0) C dX11_hand_27 rfl (by decide) ?_
      refine g_iconst (n := 29) (v := 1) C dX11_hand_28 rfl (by decide) ?_
      refine g_callV (n := 32) (As := [.int _, .int _]) C dX11_hand_29 rfl mw_X11_throwsIf w_1257 (g_recv C mh_o rfl) rfl rfl (room hR rfl) (ct_throwsIf0 ?_)
      refine g_if_ne (n := 35) (t := 72) C dX11_hand_32 rfl (by decide) (fun zc32 => ?_) (fun zc32 => ?_)
      · exact absurd zc32 (by decide)
      obtain ⟨i, hi, rfl⟩ := rng_of 5 (by decide) za17 zb17
      refine g_aload_n (n := 36) C dX11_hand_35 rfl rfl ?_
      refine g_iload_n (n := 37) C dX11_hand_36 rfl rfl ?_
      refine g_iconst (n := 38) (v := 0) C dX11_hand_37 rfl (by decide) ?_
      refine g_ldc (n := 40) C dX11_hand_38 rfl w_1350 ?_
      refine g_callS (n := 43) (As := [.int _, .int _, .int _]) C dX11_hand_40 rfl mw_X11_in w_1273 rfl rfl (room hR rfl) (ct_in (fun za40 zb40 => ?_) (fun za40 => ?_) (fun za40 zb40 => ?_))
      · --k40.0
        refine g_if_ne (n := 46) (t := 50) C dX11_hand_43 rfl (by decide) (fun zc43 => ?_) (fun zc43 => ?_)
        rotate_left
        · exact absurd zc43 (by decide)
        refine g_iconst (n := 51) (v := 0) C dX11_hand_50 rfl (by decide) ?_
        refine g_iconst (n := 52) (v := 2) C dX11_hand_51 rfl (by decide) ?_
        refine g_callV (n := 55) (As := [.int _, .int _]) C dX11_hand_52 rfl mw_X11_throwsIf w_1257 (g_recv C mh_o rfl) rfl rfl (room hR rfl) (ct_throwsIf0 ?_)
        refine g_if_ne (n := 58) (t := 72) C dX11_hand_55 rfl (by decide) (fun zc55 => ?_) (fun zc55 => ?_)
        · exact absurd zc55 (by decide)
        refine g_aload_n (n := 59) C dX11_hand_58 rfl rfl ?_
        refine m_get (n := 62) 21 C dX11_hand_59 rfl (by decide) rfl w_1121 rfl ?_
        refine g_bipush (n := 64) (v := 10) C dX11_hand_62 rfl (by decide) ?_
        refine g_iload_n (n := 65) C dX11_hand_64 rfl rfl ?_
        refine g_imul (n := 66) C dX11_hand_65 rfl ?_
        refine g_iconst (n := 67) (v := 2) C dX11_hand_66 rfl (by decide) ?_
        refine g_iadd (n := 68) C dX11_hand_67 rfl ?_
        refine m_iald (n := 69) 21 (10 * j + 2) C dX11_hand_68 rfl I (by decide) rfl (ix10 rfl 2) (by omega) (by decide) rfl ?_
        refine g_if_lt (n := 72) (t := 74) C dX11_hand_69 rfl (by decide) (fun zc69 => ?_) (fun zc69 => ?_)
        · --t69
          refine g_aload_n (n := 75) C dX11_hand_74 rfl rfl ?_
          refine m_get (n := 78) 22 C dX11_hand_75 rfl (by decide) rfl w_1122 rfl ?_
          refine g_bipush (n := 80) (v := 6) C dX11_hand_78 rfl (by decide) ?_
          refine g_iload_n (n := 81) C dX11_hand_80 rfl rfl ?_
          refine g_imul (n := 82) C dX11_hand_81 rfl ?_
          refine g_iload_n (n := 83) C dX11_hand_82 rfl rfl ?_
          refine g_iadd (n := 84) C dX11_hand_83 rfl ?_
          refine g_iload_n (n := 85) C dX11_hand_84 rfl rfl ?_
          refine m_iast (n := 86) 22 (6 * j + i) C dX11_hand_85 rfl I (by decide) (fun _ => rfl) (ix6 rfl i) (by omega) (by decide) ?_
          refine g_iconst (n := 87) (v := 1) C dX11_hand_86 rfl (by decide) ?_
          refine g_zret C dX11_hand_87 (by decide) (by decide) (by rfl) ?_
          first | exact k1 (by assumption) | exact k2 j hj rfl (Or.inl (by assumption)) | exact k2 j hj rfl (Or.inr (by assumption)) | exact k3 j hj rfl i hi rfl (Or.inl (by assumption)) | exact k3 j hj rfl i hi rfl (Or.inr (by assumption)) | exact k4 j hj rfl i hi rfl (n_or (by assumption) (by assumption)) (by assumption) | exact k5 j hj rfl i hi rfl (n_or (by assumption) (by assumption)) (by assumption)
        · --f69
          refine g_iconst (n := 73) (v := 0) C dX11_hand_72 rfl (by decide) ?_
          refine g_zret C dX11_hand_73 (by decide) (by decide) (by rfl) ?_
          first | exact k1 (by assumption) | exact k2 j hj rfl (Or.inl (by assumption)) | exact k2 j hj rfl (Or.inr (by assumption)) | exact k3 j hj rfl i hi rfl (Or.inl (by assumption)) | exact k3 j hj rfl i hi rfl (Or.inr (by assumption)) | exact k4 j hj rfl i hi rfl (n_or (by assumption) (by assumption)) (by assumption) | exact k5 j hj rfl i hi rfl (n_or (by assumption) (by assumption)) (by assumption)
      · --k40.1
        refine g_if_ne (n := 46) (t := 50) C dX11_hand_43 rfl (by decide) (fun zc43 => ?_) (fun zc43 => ?_)
        · exact absurd zc43 (by decide)
        refine g_iconst (n := 47) (v := 1) C dX11_hand_46 rfl (by decide) ?_
        refine g_goto (t := 51) C dX11_hand_47 (by decide) ?_
        refine g_iconst (n := 52) (v := 2) C dX11_hand_51 rfl (by decide) ?_
        refine g_callV (n := 55) (As := [.int _, .int _]) C dX11_hand_52 rfl mw_X11_throwsIf w_1257 (g_recv C mh_o rfl) rfl rfl (room hR rfl) (ct_throwsIf1 ?_)
        refine g_if_ne (n := 58) (t := 72) C dX11_hand_55 rfl (by decide) (fun zc55 => ?_) (fun zc55 => ?_)
        rotate_left
        · exact absurd zc55 (by decide)
        refine g_iconst (n := 73) (v := 0) C dX11_hand_72 rfl (by decide) ?_
        refine g_zret C dX11_hand_73 (by decide) (by decide) (by rfl) ?_
        first | exact k1 (by assumption) | exact k2 j hj rfl (Or.inl (by assumption)) | exact k2 j hj rfl (Or.inr (by assumption)) | exact k3 j hj rfl i hi rfl (Or.inl (by assumption)) | exact k3 j hj rfl i hi rfl (Or.inr (by assumption)) | exact k4 j hj rfl i hi rfl (n_or (by assumption) (by assumption)) (by assumption) | exact k5 j hj rfl i hi rfl (n_or (by assumption) (by assumption)) (by assumption)
      · --k40.2
        refine g_if_ne (n := 46) (t := 50) C dX11_hand_43 rfl (by decide) (fun zc43 => ?_) (fun zc43 => ?_)
        · exact absurd zc43 (by decide)
        refine g_iconst (n := 47) (v := 1) C dX11_hand_46 rfl (by decide) ?_
        refine g_goto (t := 51) C dX11_hand_47 (by decide) ?_
        refine g_iconst (n := 52) (v := 2) C dX11_hand_51 rfl (by decide) ?_
        refine g_callV (n := 55) (As := [.int _, .int _]) C dX11_hand_52 rfl mw_X11_throwsIf w_1257 (g_recv C mh_o rfl) rfl rfl (room hR rfl) (ct_throwsIf1 ?_)
        refine g_if_ne (n := 58) (t := 72) C dX11_hand_55 rfl (by decide) (fun zc55 => ?_) (fun zc55 => ?_)
        rotate_left
        · exact absurd zc55 (by decide)
        refine g_iconst (n := 73) (v := 0) C dX11_hand_72 rfl (by decide) ?_
        refine g_zret C dX11_hand_73 (by decide) (by decide) (by rfl) ?_
        first | exact k1 (by assumption) | exact k2 j hj rfl (Or.inl (by assumption)) | exact k2 j hj rfl (Or.inr (by assumption)) | exact k3 j hj rfl i hi rfl (Or.inl (by assumption)) | exact k3 j hj rfl i hi rfl (Or.inr (by assumption)) | exact k4 j hj rfl i hi rfl (n_or (by assumption) (by assumption)) (by assumption) | exact k5 j hj rfl i hi rfl (n_or (by assumption) (by assumption)) (by assumption)
    · --k17.1
      refine g_if_ne (n := 23) (t := 27) C dX11_hand_20 rfl (by decide) (fun zc20 => ?_) (fun zc20 => ?_)
      · exact absurd zc20 (by decide)
      refine g_iconst (n := 24) (v := 1) C dX11_hand_23 rfl (by decide) ?_
      refine g_goto (t := 28) C dX11_hand_24 (by decide) ?_
      refine g_iconst (n := 29) (v := 1) C dX11_hand_28 rfl (by decide) ?_
      refine g_callV (n := 32) (As := [.int _, .int _]) C dX11_hand_29 rfl mw_X11_throwsIf w_1257 (g_recv C mh_o rfl) rfl rfl (room hR rfl) (ct_throwsIf1 ?_)
      refine g_if_ne (n := 35) (t := 72) C dX11_hand_32 rfl (by decide) (fun zc32 => ?_) (fun zc32 => ?_)
      rotate_left
      · exact absurd zc32 (by decide)
      refine g_iconst (n := 73) (v := 0) C dX11_hand_72 rfl (by decide) ?_
      refine g_zret C dX11_hand_73 (by decide) (by decide) (by rfl) ?_
      first | exact k1 (by assumption) | exact k2 j hj rfl (Or.inl (by assumption)) | exact k2 j hj rfl (Or.inr (by assumption)) | exact k3 j hj rfl i hi rfl (Or.inl (by assumption)) | exact k3 j hj rfl i hi rfl (Or.inr (by assumption)) | exact k4 j hj rfl i hi rfl (n_or (by assumption) (by assumption)) (by assumption) | exact k5 j hj rfl i hi rfl (n_or (by assumption) (by assumption)) (by assumption)
    · --k17.2
      refine g_if_ne (n := 23) (t := 27) C dX11_hand_20 rfl (by decide) (fun zc20 => ?_) (fun zc20 => ?_)
      · exact absurd zc20 (by decide)
      refine g_iconst (n := 24) (v := 1) C dX11_hand_23 rfl (by decide) ?_
      refine g_goto (t := 28) C dX11_hand_24 (by decide) ?_
      refine g_iconst (n := 29) (v := 1) C dX11_hand_28 rfl (by decide) ?_
      refine g_callV (n := 32) (As := [.int _, .int _]) C dX11_hand_29 rfl mw_X11_throwsIf w_1257 (g_recv C mh_o rfl) rfl rfl (room hR rfl) (ct_throwsIf1 ?_)
      refine g_if_ne (n := 35) (t := 72) C dX11_hand_32 rfl (by decide) (fun zc32 => ?_) (fun zc32 => ?_)
      rotate_left
      · exact absurd zc32 (by decide)
      refine g_iconst (n := 73) (v := 0) C dX11_hand_72 rfl (by decide) ?_
      refine g_zret C dX11_hand_73 (by decide) (by decide) (by rfl) ?_
      first | exact k1 (by assumption) | exact k2 j hj rfl (Or.inl (by assumption)) | exact k2 j hj rfl (Or.inr (by assumption)) | exact k3 j hj rfl i hi rfl (Or.inl (by assumption)) | exact k3 j hj rfl i hi rfl (Or.inr (by assumption)) | exact k4 j hj rfl i hi rfl (n_or (by assumption) (by assumption)) (by assumption) | exact k5 j hj rfl i hi rfl (n_or (by assumption) (by assumption)) (by assumption)
  · --k8.1
    refine g_if_ne (n := 14) (t := 23) C dX11_hand_11 rfl (by decide) (fun zc11 => ?_) (fun zc11 => ?_)
    rotate_left
    · exact absurd zc11 (by decide)
    refine g_iconst (n := 24) (v := 1) C dX11_hand_23 rfl (by decide) ?_
    refine g_goto (t := 28) C dX11_hand_24 (by decide) ?_
    refine g_iconst (n := 29) (v := 1) C dX11_hand_28 rfl (by decide) ?_
    refine g_callV (n := 32) (As := [.int _, .int _]) C dX11_hand_29 rfl mw_X11_throwsIf w_1257 (g_recv C mh_o rfl) rfl rfl (room hR rfl) (ct_throwsIf1 ?_)
    refine g_if_ne (n := 35) (t := 72) C dX11_hand_32 rfl (by decide) (fun zc32 => ?_) (fun zc32 => ?_)
    rotate_left
    · exact absurd zc32 (by decide)
    refine g_iconst (n := 73) (v := 0) C dX11_hand_72 rfl (by decide) ?_
    refine g_zret C dX11_hand_73 (by decide) (by decide) (by rfl) ?_
    first | exact k1 (by assumption) | exact k2 j hj rfl (Or.inl (by assumption)) | exact k2 j hj rfl (Or.inr (by assumption)) | exact k3 j hj rfl i hi rfl (Or.inl (by assumption)) | exact k3 j hj rfl i hi rfl (Or.inr (by assumption)) | exact k4 j hj rfl i hi rfl (n_or (by assumption) (by assumption)) (by assumption) | exact k5 j hj rfl i hi rfl (n_or (by assumption) (by assumption)) (by assumption)
theorem dX11_part_0 : decode cX11_part 0 = .ok (.aload_n 0, 1) := by decide +kernel
theorem dX11_part_1 : decode cX11_part 1 = .ok (.iconst 0, 1) := by decide +kernel
theorem dX11_part_2 : decode cX11_part 2 = .ok (.putfield 76, 3) := by decide +kernel
theorem dX11_part_5 : decode cX11_part 5 = .ok (.aload_n 0, 1) := by decide +kernel
theorem dX11_part_6 : decode cX11_part 6 = .ok (.aload_n 0, 1) := by decide +kernel
theorem dX11_part_7 : decode cX11_part 7 = .ok (.iload_n 1, 1) := by decide +kernel
theorem dX11_part_8 : decode cX11_part 8 = .ok (.invokevirtual 209, 3) := by decide +kernel
theorem dX11_part_11 : decode cX11_part 11 = .ok (.iconst 1, 1) := by decide +kernel
theorem dX11_part_12 : decode cX11_part 12 = .ok (.invokevirtual 162, 3) := by decide +kernel
theorem dX11_part_15 : decode cX11_part 15 = .ok (.ifCond .ne 26, 3) := by decide +kernel
theorem dX11_part_18 : decode cX11_part 18 = .ok (.aload_n 0, 1) := by decide +kernel
theorem dX11_part_19 : decode cX11_part 19 = .ok (.iload_n 2, 1) := by decide +kernel
theorem dX11_part_20 : decode cX11_part 20 = .ok (.iconst 0, 1) := by decide +kernel
theorem dX11_part_21 : decode cX11_part 21 = .ok (.bipush 9, 2) := by decide +kernel
theorem dX11_part_23 : decode cX11_part 23 = .ok (.invokestatic 79, 3) := by decide +kernel
theorem dX11_part_26 : decode cX11_part 26 = .ok (.ifCond .ne 7, 3) := by decide +kernel
theorem dX11_part_29 : decode cX11_part 29 = .ok (.iconst 1, 1) := by decide +kernel
theorem dX11_part_30 : decode cX11_part 30 = .ok (.goto 4, 3) := by decide +kernel
theorem dX11_part_33 : decode cX11_part 33 = .ok (.iconst 0, 1) := by decide +kernel
theorem dX11_part_34 : decode cX11_part 34 = .ok (.iconst 2, 1) := by decide +kernel
theorem dX11_part_35 : decode cX11_part 35 = .ok (.invokevirtual 162, 3) := by decide +kernel
theorem dX11_part_38 : decode cX11_part 38 = .ok (.ifCond .eq 7, 3) := by decide +kernel
theorem dX11_part_41 : decode cX11_part 41 = .ok (.iconst 0, 1) := by decide +kernel
theorem dX11_part_42 : decode cX11_part 42 = .ok (.goto 14, 3) := by decide +kernel
theorem dX11_part_45 : decode cX11_part 45 = .ok (.aload_n 0, 1) := by decide +kernel
theorem dX11_part_46 : decode cX11_part 46 = .ok (.getfield 51, 3) := by decide +kernel
theorem dX11_part_49 : decode cX11_part 49 = .ok (.bipush 10, 2) := by decide +kernel
theorem dX11_part_51 : decode cX11_part 51 = .ok (.iload_n 1, 1) := by decide +kernel
theorem dX11_part_52 : decode cX11_part 52 = .ok (.imul, 1) := by decide +kernel
theorem dX11_part_53 : decode cX11_part 53 = .ok (.iload_n 2, 1) := by decide +kernel
theorem dX11_part_54 : decode cX11_part 54 = .ok (.iadd, 1) := by decide +kernel
theorem dX11_part_55 : decode cX11_part 55 = .ok (.iaload, 1) := by decide +kernel
theorem dX11_part_56 : decode cX11_part 56 = .ok (.ireturn, 1) := by decide +kernel
set_option maxHeartbeats 400000 in
set_option maxRecDepth 20000 in
theorem ct_part {l : Launch} {E : Ev} {P : Value → AH → Prop} {o : Nat} {ad : Nat → Nat} {F : Nat → Int32} {A : Nat → Nat → Int32} {h : AH} (I : mI o ad) {m : Nat} (hm : F 23 = nI m) (hm6 : m ≤ 60) {s w : Int32} (k1 : s < 0 ∨ F 23 - 1 < s → P (.int 0) (mh E o ad (upd (upd F 0 0) 0 1) A h)) (k2 : ∀ j, j < m → s = nI j → (w < 0 ∨ 9 < w) → P (.int 0) (mh E o ad (upd (upd F 0 0) 0 2) A h)) (k3 : ∀ j, j < m → s = nI j → ∀ i, i < 10 → w = nI i → P (.int (A 21 (10 * j + i))) (mh E o ad (upd F 0 0) A h)) : Mt l E yX11_part cX11_part 3 (some .int) 8 134 0 0 [.ref o, .int s, .int w] (mh E o ad F A h) P := by
  refine Mt.of (by decide) (Nat.le_of_ble_eq_true rfl) ?_
  intro K hK hR C
  refine g_aload_n (n := 1) C dX11_part_0 rfl rfl ?_
  refine g_iconst (n := 2) (v := 0) C dX11_part_1 rfl (by decide) ?_
  refine m_put (n := 5) 0 C dX11_part_2 rfl (by decide) w_1100 rfl rfl rfl mfs_0 ?_
  refine g_aload_n (n := 6) C dX11_part_5 rfl rfl ?_
  refine g_aload_n (n := 7) C dX11_part_6 rfl rfl ?_
  refine g_iload_n (n := 8) C dX11_part_7 rfl rfl ?_
  refine g_callV (n := 11) (As := [.int _]) C dX11_part_8 rfl mw_X11_noStone w_1346 (g_recv C mh_o rfl) rfl rfl (room hR rfl) (ct_noStone (fun za8 zb8 => ?_) (fun za8 => ?_))
  · --k8.0
    obtain ⟨j, hj, rfl⟩ := ix_of za8 zb8 (show upd F 0 0 23 = nI m from hm) (by omega)
    refine g_iconst (n := 12) (v := 1) C dX11_part_11 rfl (by decide) ?_
    refine g_callV (n := 15) (As := [.int _, .int _]) C dX11_part_12 rfl mw_X11_throwsIf w_1257 (g_recv C mh_o rfl) rfl rfl (room hR rfl) (ct_throwsIf0 ?_)
    refine g_if_ne (n := 18) (t := 41) C dX11_part_15 rfl (by decide) (fun zc15 => ?_) (fun zc15 => ?_)
    · exact absurd zc15 (by decide)
    refine g_aload_n (n := 19) C dX11_part_18 rfl rfl ?_
    refine g_iload_n (n := 20) C dX11_part_19 rfl rfl ?_
    refine g_iconst (n := 21) (v := 0) C dX11_part_20 rfl (by decide) ?_
    refine g_bipush (n := 23) (v := 9) C dX11_part_21 rfl (by decide) ?_
    refine g_callS (n := 26) (As := [.int _, .int _, .int _]) C dX11_part_23 rfl mw_X11_in w_1273 rfl rfl (room hR rfl) (ct_in (fun za23 zb23 => ?_) (fun za23 => ?_) (fun za23 zb23 => ?_))
    · --k23.0
      refine g_if_ne (n := 29) (t := 33) C dX11_part_26 rfl (by decide) (fun zc26 => ?_) (fun zc26 => ?_)
      rotate_left
      · exact absurd zc26 (by decide)
      refine g_iconst (n := 34) (v := 0) C dX11_part_33 rfl (by decide) ?_
      refine g_iconst (n := 35) (v := 2) C dX11_part_34 rfl (by decide) ?_
      refine g_callV (n := 38) (As := [.int _, .int _]) C dX11_part_35 rfl mw_X11_throwsIf w_1257 (g_recv C mh_o rfl) rfl rfl (room hR rfl) (ct_throwsIf0 ?_)
      refine g_if_eq (n := 41) (t := 45) C dX11_part_38 rfl (by decide) (fun zc38 => ?_) (fun zc38 => ?_)
      rotate_left
      · exact absurd zc38 (by decide)
      obtain ⟨i, hi, rfl⟩ := rng_of 9 (by decide) za23 zb23
      refine g_aload_n (n := 46) C dX11_part_45 rfl rfl ?_
      refine m_get (n := 49) 21 C dX11_part_46 rfl (by decide) rfl w_1121 rfl ?_
      refine g_bipush (n := 51) (v := 10) C dX11_part_49 rfl (by decide) ?_
      refine g_iload_n (n := 52) C dX11_part_51 rfl rfl ?_
      refine g_imul (n := 53) C dX11_part_52 rfl ?_
      refine g_iload_n (n := 54) C dX11_part_53 rfl rfl ?_
      refine g_iadd (n := 55) C dX11_part_54 rfl ?_
      refine m_iald (n := 56) 21 (10 * j + i) C dX11_part_55 rfl I (by decide) rfl (ix10 rfl i) (by omega) (by decide) rfl ?_
      refine g_iret C dX11_part_56 (by decide) (by decide) ?_
      first | exact k1 (by assumption) | exact k2 j hj rfl (Or.inl (by assumption)) | exact k2 j hj rfl (Or.inr (by assumption)) | exact k3 j hj rfl i hi rfl
    · --k23.1
      refine g_if_ne (n := 29) (t := 33) C dX11_part_26 rfl (by decide) (fun zc26 => ?_) (fun zc26 => ?_)
      · exact absurd zc26 (by decide)
      refine g_iconst (n := 30) (v := 1) C dX11_part_29 rfl (by decide) ?_
      refine g_goto (t := 34) C dX11_part_30 (by decide) ?_
      refine g_iconst (n := 35) (v := 2) C dX11_part_34 rfl (by decide) ?_
      refine g_callV (n := 38) (As := [.int _, .int _]) C dX11_part_35 rfl mw_X11_throwsIf w_1257 (g_recv C mh_o rfl) rfl rfl (room hR rfl) (ct_throwsIf1 ?_)
      refine g_if_eq (n := 41) (t := 45) C dX11_part_38 rfl (by decide) (fun zc38 => ?_) (fun zc38 => ?_)
      · exact absurd zc38 (by decide)
      refine g_iconst (n := 42) (v := 0) C dX11_part_41 rfl (by decide) ?_
      refine g_goto (t := 56) C dX11_part_42 (by decide) ?_
      refine g_iret C dX11_part_56 (by decide) (by decide) ?_
      first | exact k1 (by assumption) | exact k2 j hj rfl (Or.inl (by assumption)) | exact k2 j hj rfl (Or.inr (by assumption)) | exact k3 j hj rfl i hi rfl
    · --k23.2
      refine g_if_ne (n := 29) (t := 33) C dX11_part_26 rfl (by decide) (fun zc26 => ?_) (fun zc26 => ?_)
      · exact absurd zc26 (by decide)
      refine g_iconst (n := 30) (v := 1) C dX11_part_29 rfl (by decide) ?_
      refine g_goto (t := 34) C dX11_part_30 (by decide) ?_
      refine g_iconst (n := 35) (v := 2) C dX11_part_34 rfl (by decide) ?_
      refine g_callV (n := 38) (As := [.int _, .int _]) C dX11_part_35 rfl mw_X11_throwsIf w_1257 (g_recv C mh_o rfl) rfl rfl (room hR rfl) (ct_throwsIf1 ?_)
      refine g_if_eq (n := 41) (t := 45) C dX11_part_38 rfl (by decide) (fun zc38 => ?_) (fun zc38 => ?_)
      · exact absurd zc38 (by decide)
      refine g_iconst (n := 42) (v := 0) C dX11_part_41 rfl (by decide) ?_
      refine g_goto (t := 56) C dX11_part_42 (by decide) ?_
      refine g_iret C dX11_part_56 (by decide) (by decide) ?_
      first | exact k1 (by assumption) | exact k2 j hj rfl (Or.inl (by assumption)) | exact k2 j hj rfl (Or.inr (by assumption)) | exact k3 j hj rfl i hi rfl
  · --k8.1
    refine g_iconst (n := 12) (v := 1) C dX11_part_11 rfl (by decide) ?_
    refine g_callV (n := 15) (As := [.int _, .int _]) C dX11_part_12 rfl mw_X11_throwsIf w_1257 (g_recv C mh_o rfl) rfl rfl (room hR rfl) (ct_throwsIf1 ?_)
    refine g_if_ne (n := 18) (t := 41) C dX11_part_15 rfl (by decide) (fun zc15 => ?_) (fun zc15 => ?_)
    rotate_left
    · exact absurd zc15 (by decide)
    refine g_iconst (n := 42) (v := 0) C dX11_part_41 rfl (by decide) ?_
    refine g_goto (t := 56) C dX11_part_42 (by decide) ?_
    refine g_iret C dX11_part_56 (by decide) (by decide) ?_
    first | exact k1 (by assumption) | exact k2 j hj rfl (Or.inl (by assumption)) | exact k2 j hj rfl (Or.inr (by assumption)) | exact k3 j hj rfl i hi rfl
