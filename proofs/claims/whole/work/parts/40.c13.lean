/-- a cut of piece t into a and b is better than what is known -/
def cbet (Wf Ff : Nat → Int32) (t a b : Nat) : Prop := Wf t < Wf a + Wf b ∨ (Wf a + Wf b = Wf t ∧ Ff a + Ff b + 1 < Ff t)
def cclr (Cf Z : Nat → Int32) (l t r b : Nat) : Prop := (l < r ∧ ¬ Cf (cpl l t l b) = 0 ∧ ¬ Cf (cpl (l + 1) t r b) = 0) ∨ (¬ l < r ∧ t < b ∧ ¬ Cf (cpl l t r t) = 0 ∧ ¬ Cf (cpl l (t + 1) r b) = 0) ∨ (¬ l < r ∧ ¬ t < b ∧ Z (10 * t + l) = 0)
theorem dX7_tryCut_0 : decode cX7_tryCut 0 = .ok (.aload_n 0, 1) := by decide +kernel
theorem dX7_tryCut_1 : decode cX7_tryCut 1 = .ok (.getfield 16, 3) := by decide +kernel
theorem dX7_tryCut_4 : decode cX7_tryCut 4 = .ok (.iload_n 2, 1) := by decide +kernel
theorem dX7_tryCut_5 : decode cX7_tryCut 5 = .ok (.iaload, 1) := by decide +kernel
theorem dX7_tryCut_6 : decode cX7_tryCut 6 = .ok (.aload_n 0, 1) := by decide +kernel
theorem dX7_tryCut_7 : decode cX7_tryCut 7 = .ok (.getfield 16, 3) := by decide +kernel
theorem dX7_tryCut_10 : decode cX7_tryCut 10 = .ok (.iload_n 3, 1) := by decide +kernel
theorem dX7_tryCut_11 : decode cX7_tryCut 11 = .ok (.iaload, 1) := by decide +kernel
theorem dX7_tryCut_12 : decode cX7_tryCut 12 = .ok (.iadd, 1) := by decide +kernel
theorem dX7_tryCut_13 : decode cX7_tryCut 13 = .ok (.istore 4, 2) := by decide +kernel
theorem dX7_tryCut_15 : decode cX7_tryCut 15 = .ok (.aload_n 0, 1) := by decide +kernel
theorem dX7_tryCut_16 : decode cX7_tryCut 16 = .ok (.getfield 20, 3) := by decide +kernel
theorem dX7_tryCut_19 : decode cX7_tryCut 19 = .ok (.iload_n 2, 1) := by decide +kernel
theorem dX7_tryCut_20 : decode cX7_tryCut 20 = .ok (.iaload, 1) := by decide +kernel
theorem dX7_tryCut_21 : decode cX7_tryCut 21 = .ok (.aload_n 0, 1) := by decide +kernel
theorem dX7_tryCut_22 : decode cX7_tryCut 22 = .ok (.getfield 20, 3) := by decide +kernel
theorem dX7_tryCut_25 : decode cX7_tryCut 25 = .ok (.iload_n 3, 1) := by decide +kernel
theorem dX7_tryCut_26 : decode cX7_tryCut 26 = .ok (.iaload, 1) := by decide +kernel
theorem dX7_tryCut_27 : decode cX7_tryCut 27 = .ok (.iadd, 1) := by decide +kernel
theorem dX7_tryCut_28 : decode cX7_tryCut 28 = .ok (.iconst 1, 1) := by decide +kernel
theorem dX7_tryCut_29 : decode cX7_tryCut 29 = .ok (.iadd, 1) := by decide +kernel
theorem dX7_tryCut_30 : decode cX7_tryCut 30 = .ok (.istore 5, 2) := by decide +kernel
theorem dX7_tryCut_32 : decode cX7_tryCut 32 = .ok (.iload 4, 2) := by decide +kernel
theorem dX7_tryCut_34 : decode cX7_tryCut 34 = .ok (.aload_n 0, 1) := by decide +kernel
theorem dX7_tryCut_35 : decode cX7_tryCut 35 = .ok (.getfield 16, 3) := by decide +kernel
theorem dX7_tryCut_38 : decode cX7_tryCut 38 = .ok (.iload_n 1, 1) := by decide +kernel
theorem dX7_tryCut_39 : decode cX7_tryCut 39 = .ok (.iaload, 1) := by decide +kernel
theorem dX7_tryCut_40 : decode cX7_tryCut 40 = .ok (.if_icmp .gt 25, 3) := by decide +kernel
theorem dX7_tryCut_43 : decode cX7_tryCut 43 = .ok (.iload 4, 2) := by decide +kernel
theorem dX7_tryCut_45 : decode cX7_tryCut 45 = .ok (.aload_n 0, 1) := by decide +kernel
theorem dX7_tryCut_46 : decode cX7_tryCut 46 = .ok (.getfield 16, 3) := by decide +kernel
theorem dX7_tryCut_49 : decode cX7_tryCut 49 = .ok (.iload_n 1, 1) := by decide +kernel
theorem dX7_tryCut_50 : decode cX7_tryCut 50 = .ok (.iaload, 1) := by decide +kernel
theorem dX7_tryCut_51 : decode cX7_tryCut 51 = .ok (.if_icmp .ne 30, 3) := by decide +kernel
theorem dX7_tryCut_54 : decode cX7_tryCut 54 = .ok (.iload 5, 2) := by decide +kernel
theorem dX7_tryCut_56 : decode cX7_tryCut 56 = .ok (.aload_n 0, 1) := by decide +kernel
theorem dX7_tryCut_57 : decode cX7_tryCut 57 = .ok (.getfield 20, 3) := by decide +kernel
theorem dX7_tryCut_60 : decode cX7_tryCut 60 = .ok (.iload_n 1, 1) := by decide +kernel
theorem dX7_tryCut_61 : decode cX7_tryCut 61 = .ok (.iaload, 1) := by decide +kernel
theorem dX7_tryCut_62 : decode cX7_tryCut 62 = .ok (.if_icmp .ge 19, 3) := by decide +kernel
theorem dX7_tryCut_65 : decode cX7_tryCut 65 = .ok (.aload_n 0, 1) := by decide +kernel
theorem dX7_tryCut_66 : decode cX7_tryCut 66 = .ok (.getfield 16, 3) := by decide +kernel
theorem dX7_tryCut_69 : decode cX7_tryCut 69 = .ok (.iload_n 1, 1) := by decide +kernel
theorem dX7_tryCut_70 : decode cX7_tryCut 70 = .ok (.iload 4, 2) := by decide +kernel
theorem dX7_tryCut_72 : decode cX7_tryCut 72 = .ok (.iastore, 1) := by decide +kernel
theorem dX7_tryCut_73 : decode cX7_tryCut 73 = .ok (.aload_n 0, 1) := by decide +kernel
theorem dX7_tryCut_74 : decode cX7_tryCut 74 = .ok (.getfield 20, 3) := by decide +kernel
theorem dX7_tryCut_77 : decode cX7_tryCut 77 = .ok (.iload_n 1, 1) := by decide +kernel
theorem dX7_tryCut_78 : decode cX7_tryCut 78 = .ok (.iload 5, 2) := by decide +kernel
theorem dX7_tryCut_80 : decode cX7_tryCut 80 = .ok (.iastore, 1) := by decide +kernel
theorem dX7_tryCut_81 : decode cX7_tryCut 81 = .ok (.return_, 1) := by decide +kernel
set_option maxHeartbeats 1000000 in
set_option maxRecDepth 20000 in
theorem cc_tryCut {l : Launch} {E : Ev} {P : Value → AH → Prop}  {g fl cl wo fe : Nat} {wi hi z : Int32} {h : AH} (hg : h g = some (.inr (7, [.ref fl, .ref cl, .ref wo, .ref fe, .int wi, .int hi, .int z]))) {Wf Ff : Nat → Int32} (hw : h wo = some (.inl (E.2.2 1, 1980, .inl Wf))) (hf : h fe = some (.inl (E.2.2 1, 1980, .inl Ff))) (hwf : wo ≠ fe) {t a b : Nat} (ht : t < 1980) (ha : a < 1980) (hb : b < 1980) (k1 : cbet Wf Ff t a b → P .null (hset (hset h wo (.inl (E.2.2 1, 1980, .inl (upd Wf t (Wf a + Wf b))))) fe (.inl (E.2.2 1, 1980, .inl (upd Ff t (Ff a + Ff b + 1)))))) (k0 : ¬ cbet Wf Ff t a b → P .null h) : Mt l E yX7_tryCut cX7_tryCut 6 none 0 0 0 0 [.ref g, .int (nI t), .int (nI a), .int (nI b)] (h) P := by
  refine Mt.of (by decide) (Nat.le_of_ble_eq_true rfl) ?_
  intro K hK hR C
  refine g_aload_n (n := 1) C dX7_tryCut_0 rfl rfl ?_
  refine g_get (n := 4) (T := TX7) C 2 dX7_tryCut_1 rfl hg rfl rfl (by decide) inX7 w_213 rfl ?_
  refine g_iload_n (n := 5) C dX7_tryCut_4 rfl rfl ?_
  refine f_iald (n := 6) (a) C dX7_tryCut_5 rfl hw rfl ha (by decide) (rfl) ?_
  refine g_aload_n (n := 7) C dX7_tryCut_6 rfl rfl ?_
  refine g_get (n := 10) (T := TX7) C 2 dX7_tryCut_7 rfl hg rfl rfl (by decide) inX7 w_213 rfl ?_
  refine g_iload_n (n := 11) C dX7_tryCut_10 rfl rfl ?_
  refine f_iald (n := 12) (b) C dX7_tryCut_11 rfl hw rfl hb (by decide) (rfl) ?_
  refine g_iadd (n := 13) C dX7_tryCut_12 rfl ?_
  refine g_istore (n := 15) C dX7_tryCut_13 rfl (by decide) ?_
  refine g_aload_n (n := 16) C dX7_tryCut_15 rfl rfl ?_
  refine g_get (n := 19) (T := TX7) C 3 dX7_tryCut_16 rfl hg rfl rfl (by decide) inX7 w_214 rfl ?_
  refine g_iload_n (n := 20) C dX7_tryCut_19 rfl rfl ?_
  refine f_iald (n := 21) (a) C dX7_tryCut_20 rfl hf rfl ha (by decide) (rfl) ?_
  refine g_aload_n (n := 22) C dX7_tryCut_21 rfl rfl ?_
  refine g_get (n := 25) (T := TX7) C 3 dX7_tryCut_22 rfl hg rfl rfl (by decide) inX7 w_214 rfl ?_
  refine g_iload_n (n := 26) C dX7_tryCut_25 rfl rfl ?_
  refine f_iald (n := 27) (b) C dX7_tryCut_26 rfl hf rfl hb (by decide) (rfl) ?_
  refine g_iadd (n := 28) C dX7_tryCut_27 rfl ?_
  refine g_iconst (n := 29) (v := 1) C dX7_tryCut_28 rfl (by decide) ?_
  refine g_iadd (n := 30) C dX7_tryCut_29 rfl ?_
  refine g_istore (n := 32) C dX7_tryCut_30 rfl (by decide) ?_
  refine g_iload (n := 34) C dX7_tryCut_32 rfl rfl ?_
  refine g_aload_n (n := 35) C dX7_tryCut_34 rfl rfl ?_
  refine g_get (n := 38) (T := TX7) C 2 dX7_tryCut_35 rfl hg rfl rfl (by decide) inX7 w_213 rfl ?_
  refine g_iload_n (n := 39) C dX7_tryCut_38 rfl rfl ?_
  refine f_iald (n := 40) (t) C dX7_tryCut_39 rfl hw rfl ht (by decide) (rfl) ?_
  refine g_icmp_gt (n := 43) (t := 65) C dX7_tryCut_40 rfl (by decide) (fun zc40 => ?_) (fun zc40 => ?_)
  · --t40
    refine g_aload_n (n := 66) C dX7_tryCut_65 rfl rfl ?_
    refine g_get (n := 69) (T := TX7) C 2 dX7_tryCut_66 rfl hg rfl rfl (by decide) inX7 w_213 rfl ?_
    refine g_iload_n (n := 70) C dX7_tryCut_69 rfl rfl ?_
    refine g_iload (n := 72) C dX7_tryCut_70 rfl rfl ?_
    refine f_iast (n := 73) (t) C dX7_tryCut_72 rfl hw rfl ht (by decide) ?_
    have hg2 := (hset_ne h (.inl (E.2.2 1, 1980, .inl (upd Wf t (Wf a + Wf b))) : va_E) (show g ≠ wo from fun zq => by rw [zq, hw] at hg; cases hg)).trans hg
    have hf2 := (hset_ne h (.inl (E.2.2 1, 1980, .inl (upd Wf t (Wf a + Wf b))) : va_E) hwf.symm).trans hf
    refine g_aload_n (n := 74) C dX7_tryCut_73 rfl rfl ?_
    refine g_get (n := 77) (T := TX7) C 3 dX7_tryCut_74 rfl hg2 rfl rfl (by decide) inX7 w_214 rfl ?_
    refine g_iload_n (n := 78) C dX7_tryCut_77 rfl rfl ?_
    refine g_iload (n := 80) C dX7_tryCut_78 rfl rfl ?_
    refine f_iast (n := 81) (t) C dX7_tryCut_80 rfl hf2 rfl ht (by decide) ?_
    refine g_vret C dX7_tryCut_81 (by decide) (by decide) ?_
    first | exact k1 (Or.inl zc40) | exact k1 (Or.inr ⟨zc51, Int32.not_le.mp zc62⟩) | exact k0 (fun zq => zq.elim zc40 (fun zw => zc51 zw.1)) | exact k0 (fun zq => zq.elim zc40 (fun zw => Int32.not_le.mpr zw.2 zc62))
  · --f40
    refine g_iload (n := 45) C dX7_tryCut_43 rfl rfl ?_
    refine g_aload_n (n := 46) C dX7_tryCut_45 rfl rfl ?_
    refine g_get (n := 49) (T := TX7) C 2 dX7_tryCut_46 rfl hg rfl rfl (by decide) inX7 w_213 rfl ?_
    refine g_iload_n (n := 50) C dX7_tryCut_49 rfl rfl ?_
    refine f_iald (n := 51) (t) C dX7_tryCut_50 rfl hw rfl ht (by decide) (rfl) ?_
    refine g_icmp_ne (n := 54) (t := 81) C dX7_tryCut_51 rfl (by decide) (fun zc51 => ?_) (fun zc51 => ?_)
    · --t51
      refine g_vret C dX7_tryCut_81 (by decide) (by decide) ?_
      first | exact k1 (Or.inl zc40) | exact k1 (Or.inr ⟨zc51, Int32.not_le.mp zc62⟩) | exact k0 (fun zq => zq.elim zc40 (fun zw => zc51 zw.1)) | exact k0 (fun zq => zq.elim zc40 (fun zw => Int32.not_le.mpr zw.2 zc62))
    · --f51
      refine g_iload (n := 56) C dX7_tryCut_54 rfl rfl ?_
      refine g_aload_n (n := 57) C dX7_tryCut_56 rfl rfl ?_
      refine g_get (n := 60) (T := TX7) C 3 dX7_tryCut_57 rfl hg rfl rfl (by decide) inX7 w_214 rfl ?_
      refine g_iload_n (n := 61) C dX7_tryCut_60 rfl rfl ?_
      refine f_iald (n := 62) (t) C dX7_tryCut_61 rfl hf rfl ht (by decide) (rfl) ?_
      refine g_icmp_ge (n := 65) (t := 81) C dX7_tryCut_62 rfl (by decide) (fun zc62 => ?_) (fun zc62 => ?_)
      · --t62
        refine g_vret C dX7_tryCut_81 (by decide) (by decide) ?_
        first | exact k1 (Or.inl zc40) | exact k1 (Or.inr ⟨zc51, Int32.not_le.mp zc62⟩) | exact k0 (fun zq => zq.elim zc40 (fun zw => zc51 zw.1)) | exact k0 (fun zq => zq.elim zc40 (fun zw => Int32.not_le.mpr zw.2 zc62))
      · --f62
        refine g_aload_n (n := 66) C dX7_tryCut_65 rfl rfl ?_
        refine g_get (n := 69) (T := TX7) C 2 dX7_tryCut_66 rfl hg rfl rfl (by decide) inX7 w_213 rfl ?_
        refine g_iload_n (n := 70) C dX7_tryCut_69 rfl rfl ?_
        refine g_iload (n := 72) C dX7_tryCut_70 rfl rfl ?_
        refine f_iast (n := 73) (t) C dX7_tryCut_72 rfl hw rfl ht (by decide) ?_
        have hg2 := (hset_ne h (.inl (E.2.2 1, 1980, .inl (upd Wf t (Wf a + Wf b))) : va_E) (show g ≠ wo from fun zq => by rw [zq, hw] at hg; cases hg)).trans hg
        have hf2 := (hset_ne h (.inl (E.2.2 1, 1980, .inl (upd Wf t (Wf a + Wf b))) : va_E) hwf.symm).trans hf
        refine g_aload_n (n := 74) C dX7_tryCut_73 rfl rfl ?_
        refine g_get (n := 77) (T := TX7) C 3 dX7_tryCut_74 rfl hg2 rfl rfl (by decide) inX7 w_214 rfl ?_
        refine g_iload_n (n := 78) C dX7_tryCut_77 rfl rfl ?_
        refine g_iload (n := 80) C dX7_tryCut_78 rfl rfl ?_
        refine f_iast (n := 81) (t) C dX7_tryCut_80 rfl hf2 rfl ht (by decide) ?_
        refine g_vret C dX7_tryCut_81 (by decide) (by decide) ?_
        first | exact k1 (Or.inl zc40) | exact k1 (Or.inr ⟨zc51, Int32.not_le.mp zc62⟩) | exact k0 (fun zq => zq.elim zc40 (fun zw => zc51 zw.1)) | exact k0 (fun zq => zq.elim zc40 (fun zw => Int32.not_le.mpr zw.2 zc62))
theorem dX7_isClear_0 : decode cX7_isClear 0 = .ok (.iload_n 1, 1) := by decide +kernel
theorem dX7_isClear_1 : decode cX7_isClear 1 = .ok (.iload_n 3, 1) := by decide +kernel
theorem dX7_isClear_2 : decode cX7_isClear 2 = .ok (.if_icmp .ge 43, 3) := by decide +kernel
theorem dX7_isClear_5 : decode cX7_isClear 5 = .ok (.aload_n 0, 1) := by decide +kernel
theorem dX7_isClear_6 : decode cX7_isClear 6 = .ok (.getfield 13, 3) := by decide +kernel
theorem dX7_isClear_9 : decode cX7_isClear 9 = .ok (.iload_n 1, 1) := by decide +kernel
theorem dX7_isClear_10 : decode cX7_isClear 10 = .ok (.iload_n 2, 1) := by decide +kernel
theorem dX7_isClear_11 : decode cX7_isClear 11 = .ok (.iload_n 1, 1) := by decide +kernel
theorem dX7_isClear_12 : decode cX7_isClear 12 = .ok (.iload 4, 2) := by decide +kernel
theorem dX7_isClear_14 : decode cX7_isClear 14 = .ok (.invokestatic 37, 3) := by decide +kernel
theorem dX7_isClear_17 : decode cX7_isClear 17 = .ok (.baload, 1) := by decide +kernel
theorem dX7_isClear_18 : decode cX7_isClear 18 = .ok (.ifCond .eq 25, 3) := by decide +kernel
theorem dX7_isClear_21 : decode cX7_isClear 21 = .ok (.aload_n 0, 1) := by decide +kernel
theorem dX7_isClear_22 : decode cX7_isClear 22 = .ok (.getfield 13, 3) := by decide +kernel
theorem dX7_isClear_25 : decode cX7_isClear 25 = .ok (.iload_n 1, 1) := by decide +kernel
theorem dX7_isClear_26 : decode cX7_isClear 26 = .ok (.iconst 1, 1) := by decide +kernel
theorem dX7_isClear_27 : decode cX7_isClear 27 = .ok (.iadd, 1) := by decide +kernel
theorem dX7_isClear_28 : decode cX7_isClear 28 = .ok (.iload_n 2, 1) := by decide +kernel
theorem dX7_isClear_29 : decode cX7_isClear 29 = .ok (.iload_n 3, 1) := by decide +kernel
theorem dX7_isClear_30 : decode cX7_isClear 30 = .ok (.iload 4, 2) := by decide +kernel
theorem dX7_isClear_32 : decode cX7_isClear 32 = .ok (.invokestatic 37, 3) := by decide +kernel
theorem dX7_isClear_35 : decode cX7_isClear 35 = .ok (.baload, 1) := by decide +kernel
theorem dX7_isClear_36 : decode cX7_isClear 36 = .ok (.ifCond .eq 7, 3) := by decide +kernel
theorem dX7_isClear_39 : decode cX7_isClear 39 = .ok (.iconst 1, 1) := by decide +kernel
theorem dX7_isClear_40 : decode cX7_isClear 40 = .ok (.goto 4, 3) := by decide +kernel
theorem dX7_isClear_43 : decode cX7_isClear 43 = .ok (.iconst 0, 1) := by decide +kernel
theorem dX7_isClear_44 : decode cX7_isClear 44 = .ok (.ireturn, 1) := by decide +kernel
theorem dX7_isClear_45 : decode cX7_isClear 45 = .ok (.iload_n 2, 1) := by decide +kernel
theorem dX7_isClear_46 : decode cX7_isClear 46 = .ok (.iload 4, 2) := by decide +kernel
theorem dX7_isClear_48 : decode cX7_isClear 48 = .ok (.if_icmp .ge 42, 3) := by decide +kernel
theorem dX7_isClear_51 : decode cX7_isClear 51 = .ok (.aload_n 0, 1) := by decide +kernel
theorem dX7_isClear_52 : decode cX7_isClear 52 = .ok (.getfield 13, 3) := by decide +kernel
theorem dX7_isClear_55 : decode cX7_isClear 55 = .ok (.iload_n 1, 1) := by decide +kernel
theorem dX7_isClear_56 : decode cX7_isClear 56 = .ok (.iload_n 2, 1) := by decide +kernel
theorem dX7_isClear_57 : decode cX7_isClear 57 = .ok (.iload_n 3, 1) := by decide +kernel
theorem dX7_isClear_58 : decode cX7_isClear 58 = .ok (.iload_n 2, 1) := by decide +kernel
theorem dX7_isClear_59 : decode cX7_isClear 59 = .ok (.invokestatic 37, 3) := by decide +kernel
theorem dX7_isClear_62 : decode cX7_isClear 62 = .ok (.baload, 1) := by decide +kernel
theorem dX7_isClear_63 : decode cX7_isClear 63 = .ok (.ifCond .eq 25, 3) := by decide +kernel
theorem dX7_isClear_66 : decode cX7_isClear 66 = .ok (.aload_n 0, 1) := by decide +kernel
theorem dX7_isClear_67 : decode cX7_isClear 67 = .ok (.getfield 13, 3) := by decide +kernel
theorem dX7_isClear_70 : decode cX7_isClear 70 = .ok (.iload_n 1, 1) := by decide +kernel
theorem dX7_isClear_71 : decode cX7_isClear 71 = .ok (.iload_n 2, 1) := by decide +kernel
theorem dX7_isClear_72 : decode cX7_isClear 72 = .ok (.iconst 1, 1) := by decide +kernel
theorem dX7_isClear_73 : decode cX7_isClear 73 = .ok (.iadd, 1) := by decide +kernel
theorem dX7_isClear_74 : decode cX7_isClear 74 = .ok (.iload_n 3, 1) := by decide +kernel
theorem dX7_isClear_75 : decode cX7_isClear 75 = .ok (.iload 4, 2) := by decide +kernel
theorem dX7_isClear_77 : decode cX7_isClear 77 = .ok (.invokestatic 37, 3) := by decide +kernel
theorem dX7_isClear_80 : decode cX7_isClear 80 = .ok (.baload, 1) := by decide +kernel
theorem dX7_isClear_81 : decode cX7_isClear 81 = .ok (.ifCond .eq 7, 3) := by decide +kernel
theorem dX7_isClear_84 : decode cX7_isClear 84 = .ok (.iconst 1, 1) := by decide +kernel
theorem dX7_isClear_85 : decode cX7_isClear 85 = .ok (.goto 4, 3) := by decide +kernel
theorem dX7_isClear_88 : decode cX7_isClear 88 = .ok (.iconst 0, 1) := by decide +kernel
theorem dX7_isClear_89 : decode cX7_isClear 89 = .ok (.ireturn, 1) := by decide +kernel
theorem dX7_isClear_90 : decode cX7_isClear 90 = .ok (.aload_n 0, 1) := by decide +kernel
theorem dX7_isClear_91 : decode cX7_isClear 91 = .ok (.getfield 9, 3) := by decide +kernel
theorem dX7_isClear_94 : decode cX7_isClear 94 = .ok (.iload_n 2, 1) := by decide +kernel
theorem dX7_isClear_95 : decode cX7_isClear 95 = .ok (.bipush 10, 2) := by decide +kernel
theorem dX7_isClear_97 : decode cX7_isClear 97 = .ok (.imul, 1) := by decide +kernel
theorem dX7_isClear_98 : decode cX7_isClear 98 = .ok (.iload_n 1, 1) := by decide +kernel
theorem dX7_isClear_99 : decode cX7_isClear 99 = .ok (.iadd, 1) := by decide +kernel
theorem dX7_isClear_100 : decode cX7_isClear 100 = .ok (.baload, 1) := by decide +kernel
theorem dX7_isClear_101 : decode cX7_isClear 101 = .ok (.ifCond .ne 7, 3) := by decide +kernel
theorem dX7_isClear_104 : decode cX7_isClear 104 = .ok (.iconst 1, 1) := by decide +kernel
theorem dX7_isClear_105 : decode cX7_isClear 105 = .ok (.goto 4, 3) := by decide +kernel
theorem dX7_isClear_108 : decode cX7_isClear 108 = .ok (.iconst 0, 1) := by decide +kernel
theorem dX7_isClear_109 : decode cX7_isClear 109 = .ok (.ireturn, 1) := by decide +kernel
set_option maxHeartbeats 1000000 in
set_option maxRecDepth 20000 in
theorem cc_isClear {l : Launch} {E : Ev} {P : Value → AH → Prop}  {g fl cl wo fe : Nat} {wi hi z : Int32} {h : AH} (hg : h g = some (.inr (7, [.ref fl, .ref cl, .ref wo, .ref fe, .int wi, .int hi, .int z]))) {Cf Z : Nat → Int32} (hc : h cl = some (.inl (E.2.2 2, 1980, .inl Cf))) (hf : h fl = some (.inl (E.2.2 2, 80, .inl Z))) {l9 t9 r9 b9 : Nat} (h1 : l9 ≤ r9) (h2 : r9 < 10) (h3 : t9 ≤ b9) (h4 : b9 < 8) (k1 : cclr Cf Z l9 t9 r9 b9 → P (.int 1) h) (k0 : ¬ cclr Cf Z l9 t9 r9 b9 → P (.int 0) h) : Mt l E yX7_isClear cX7_isClear 5 (some .boolean) 2 44 0 0 [.ref g, .int (nI l9), .int (nI t9), .int (nI r9), .int (nI b9)] (h) P := by
  refine Mt.of (by decide) (Nat.le_of_ble_eq_true rfl) ?_
  intro K hK hR C
  refine g_iload_n (n := 1) C dX7_isClear_0 rfl rfl ?_
  refine g_iload_n (n := 2) C dX7_isClear_1 rfl rfl ?_
  refine g_icmp_ge (n := 5) (t := 45) C dX7_isClear_2 rfl (by decide) (fun zc2 => ?_) (fun zc2 => ?_)
  · --t2
    refine g_iload_n (n := 46) C dX7_isClear_45 rfl rfl ?_
    refine g_iload (n := 48) C dX7_isClear_46 rfl rfl ?_
    refine g_icmp_ge (n := 51) (t := 90) C dX7_isClear_48 rfl (by decide) (fun zc48 => ?_) (fun zc48 => ?_)
    · --t48
      refine g_aload_n (n := 91) C dX7_isClear_90 rfl rfl ?_
      refine g_get (n := 94) (T := TX7) C 0 dX7_isClear_91 rfl hg rfl rfl (by decide) inX7 w_211 rfl ?_
      refine g_iload_n (n := 95) C dX7_isClear_94 rfl rfl ?_
      refine g_bipush (n := 97) (v := 10) C dX7_isClear_95 rfl (by decide) ?_
      refine g_imul (n := 98) C dX7_isClear_97 rfl ?_
      refine g_iload_n (n := 99) C dX7_isClear_98 rfl rfl ?_
      refine g_iadd (n := 100) C dX7_isClear_99 rfl ?_
      rw [show nI t9 * 10 + nI l9 = nI (10 * t9 + l9) from by rw [show (10 : Int32) = nI 10 from rfl, pk_mul, nI_add, Nat.mul_comm]]
      refine f_zald (n := 101) (10 * t9 + l9) C dX7_isClear_100 rfl hf rfl (by omega) (by decide) (rfl) ?_
      refine g_if_ne (n := 104) (t := 108) C dX7_isClear_101 rfl (by decide) (fun zc101 => ?_) (fun zc101 => ?_)
      · --t101
        refine g_iconst (n := 109) (v := 0) C dX7_isClear_108 rfl (by decide) ?_
        refine g_zret C dX7_isClear_109 (by decide) (by decide) (by rfl) ?_
        exact k0 (fun zq => zq.elim (fun z => (show ¬ l9 < r9 from fun q => by have := (nI_leI (a := r9) (b := l9) (by omega) (by omega)).mp zc2; omega) z.1) (fun z => z.elim (fun y => (show ¬ t9 < b9 from fun q => by have := (nI_leI (a := b9) (b := t9) (by omega) (by omega)).mp zc48; omega) y.2.1) (fun y => zc101 y.2.2)))
      · --f101
        refine g_iconst (n := 105) (v := 1) C dX7_isClear_104 rfl (by decide) ?_
        refine g_goto (t := 109) C dX7_isClear_105 (by decide) ?_
        refine g_zret C dX7_isClear_109 (by decide) (by decide) (by rfl) ?_
        exact k1 (Or.inr (Or.inr ⟨(show ¬ l9 < r9 from fun q => by have := (nI_leI (a := r9) (b := l9) (by omega) (by omega)).mp zc2; omega), (show ¬ t9 < b9 from fun q => by have := (nI_leI (a := b9) (b := t9) (by omega) (by omega)).mp zc48; omega), zc101⟩))
    · --f48
      refine g_aload_n (n := 52) C dX7_isClear_51 rfl rfl ?_
      refine g_get (n := 55) (T := TX7) C 1 dX7_isClear_52 rfl hg rfl rfl (by decide) inX7 w_212 rfl ?_
      refine g_iload_n (n := 56) C dX7_isClear_55 rfl rfl ?_
      refine g_iload_n (n := 57) C dX7_isClear_56 rfl rfl ?_
      refine g_iload_n (n := 58) C dX7_isClear_57 rfl rfl ?_
      refine g_iload_n (n := 59) C dX7_isClear_58 rfl rfl ?_
      refine g_callS (n := 62) (As := [.int _, .int _, .int _, .int _]) C dX7_isClear_59 rfl mw_X7_place w_342 rfl rfl (room hR rfl) (cc_place (l9 := l9) (t9 := t9) (r9 := r9) (b9 := t9) (by omega) (by omega) (by omega) (by omega) ?_)
      refine f_zald (n := 63) (cpl l9 t9 r9 t9) C dX7_isClear_62 rfl hc rfl (cpl_lt h1 h2 (by omega) (by omega)) (by decide) (rfl) ?_
      refine g_if_eq (n := 66) (t := 88) C dX7_isClear_63 rfl (by decide) (fun zc63 => ?_) (fun zc63 => ?_)
      · --t63
        refine g_iconst (n := 89) (v := 0) C dX7_isClear_88 rfl (by decide) ?_
        refine g_zret C dX7_isClear_89 (by decide) (by decide) (by rfl) ?_
        first | exact k0 (fun zq => zq.elim (fun z => (show ¬ l9 < r9 from fun q => by have := (nI_leI (a := r9) (b := l9) (by omega) (by omega)).mp zc2; omega) z.1) (fun z => z.elim (fun y => y.2.2.1 zc63) (fun y => y.2.1 (show t9 < b9 from by rcases Nat.lt_or_ge t9 b9 with q | q; exact q; exact absurd (nI_le q (by omega)) zc48)))) | exact k0 (fun zq => zq.elim (fun z => (show ¬ l9 < r9 from fun q => by have := (nI_leI (a := r9) (b := l9) (by omega) (by omega)).mp zc2; omega) z.1) (fun z => z.elim (fun y => y.2.2.2 zc81) (fun y => y.2.1 (show t9 < b9 from by rcases Nat.lt_or_ge t9 b9 with q | q; exact q; exact absurd (nI_le q (by omega)) zc48))))
      · --f63
        refine g_aload_n (n := 67) C dX7_isClear_66 rfl rfl ?_
        refine g_get (n := 70) (T := TX7) C 1 dX7_isClear_67 rfl hg rfl rfl (by decide) inX7 w_212 rfl ?_
        refine g_iload_n (n := 71) C dX7_isClear_70 rfl rfl ?_
        refine g_iload_n (n := 72) C dX7_isClear_71 rfl rfl ?_
        refine g_iconst (n := 73) (v := 1) C dX7_isClear_72 rfl (by decide) ?_
        refine g_iadd (n := 74) C dX7_isClear_73 rfl ?_
        rw [nI_1 t9]
        refine g_iload_n (n := 75) C dX7_isClear_74 rfl rfl ?_
        refine g_iload (n := 77) C dX7_isClear_75 rfl rfl ?_
        refine g_callS (n := 80) (As := [.int _, .int _, .int _, .int _]) C dX7_isClear_77 rfl mw_X7_place w_342 rfl rfl (room hR rfl) (cc_place (l9 := l9) (t9 := t9 + 1) (r9 := r9) (b9 := b9) (by omega) (by have := (show t9 < b9 from by rcases Nat.lt_or_ge t9 b9 with q | q; exact q; exact absurd (nI_le q (by omega)) zc48); omega) (by omega) (by omega) ?_)
        refine f_zald (n := 81) (cpl l9 (t9 + 1) r9 b9) C dX7_isClear_80 rfl hc rfl (cpl_lt h1 h2 (by have := (show t9 < b9 from by rcases Nat.lt_or_ge t9 b9 with q | q; exact q; exact absurd (nI_le q (by omega)) zc48); omega) h4) (by decide) (rfl) ?_
        refine g_if_eq (n := 84) (t := 88) C dX7_isClear_81 rfl (by decide) (fun zc81 => ?_) (fun zc81 => ?_)
        · --t81
          refine g_iconst (n := 89) (v := 0) C dX7_isClear_88 rfl (by decide) ?_
          refine g_zret C dX7_isClear_89 (by decide) (by decide) (by rfl) ?_
          first | exact k0 (fun zq => zq.elim (fun z => (show ¬ l9 < r9 from fun q => by have := (nI_leI (a := r9) (b := l9) (by omega) (by omega)).mp zc2; omega) z.1) (fun z => z.elim (fun y => y.2.2.1 zc63) (fun y => y.2.1 (show t9 < b9 from by rcases Nat.lt_or_ge t9 b9 with q | q; exact q; exact absurd (nI_le q (by omega)) zc48)))) | exact k0 (fun zq => zq.elim (fun z => (show ¬ l9 < r9 from fun q => by have := (nI_leI (a := r9) (b := l9) (by omega) (by omega)).mp zc2; omega) z.1) (fun z => z.elim (fun y => y.2.2.2 zc81) (fun y => y.2.1 (show t9 < b9 from by rcases Nat.lt_or_ge t9 b9 with q | q; exact q; exact absurd (nI_le q (by omega)) zc48))))
        · --f81
          refine g_iconst (n := 85) (v := 1) C dX7_isClear_84 rfl (by decide) ?_
          refine g_goto (t := 89) C dX7_isClear_85 (by decide) ?_
          refine g_zret C dX7_isClear_89 (by decide) (by decide) (by rfl) ?_
          exact k1 (Or.inr (Or.inl ⟨(show ¬ l9 < r9 from fun q => by have := (nI_leI (a := r9) (b := l9) (by omega) (by omega)).mp zc2; omega), (show t9 < b9 from by rcases Nat.lt_or_ge t9 b9 with q | q; exact q; exact absurd (nI_le q (by omega)) zc48), zc63, zc81⟩))
  · --f2
    refine g_aload_n (n := 6) C dX7_isClear_5 rfl rfl ?_
    refine g_get (n := 9) (T := TX7) C 1 dX7_isClear_6 rfl hg rfl rfl (by decide) inX7 w_212 rfl ?_
    refine g_iload_n (n := 10) C dX7_isClear_9 rfl rfl ?_
    refine g_iload_n (n := 11) C dX7_isClear_10 rfl rfl ?_
    refine g_iload_n (n := 12) C dX7_isClear_11 rfl rfl ?_
    refine g_iload (n := 14) C dX7_isClear_12 rfl rfl ?_
    refine g_callS (n := 17) (As := [.int _, .int _, .int _, .int _]) C dX7_isClear_14 rfl mw_X7_place w_342 rfl rfl (room hR rfl) (cc_place (l9 := l9) (t9 := t9) (r9 := l9) (b9 := b9) (by omega) (by omega) (by omega) (by omega) ?_)
    refine f_zald (n := 18) (cpl l9 t9 l9 b9) C dX7_isClear_17 rfl hc rfl (cpl_lt (by omega) (by omega) h3 h4) (by decide) (rfl) ?_
    refine g_if_eq (n := 21) (t := 43) C dX7_isClear_18 rfl (by decide) (fun zc18 => ?_) (fun zc18 => ?_)
    · --t18
      refine g_iconst (n := 44) (v := 0) C dX7_isClear_43 rfl (by decide) ?_
      refine g_zret C dX7_isClear_44 (by decide) (by decide) (by rfl) ?_
      first | exact k0 (fun zq => zq.elim (fun z => z.2.1 zc18) (fun z => z.elim (fun y => y.1 (show l9 < r9 from by rcases Nat.lt_or_ge l9 r9 with q | q; exact q; exact absurd (nI_le q (by omega)) zc2)) (fun y => y.1 (show l9 < r9 from by rcases Nat.lt_or_ge l9 r9 with q | q; exact q; exact absurd (nI_le q (by omega)) zc2)))) | exact k0 (fun zq => zq.elim (fun z => z.2.2 zc36) (fun z => z.elim (fun y => y.1 (show l9 < r9 from by rcases Nat.lt_or_ge l9 r9 with q | q; exact q; exact absurd (nI_le q (by omega)) zc2)) (fun y => y.1 (show l9 < r9 from by rcases Nat.lt_or_ge l9 r9 with q | q; exact q; exact absurd (nI_le q (by omega)) zc2))))
    · --f18
      refine g_aload_n (n := 22) C dX7_isClear_21 rfl rfl ?_
      refine g_get (n := 25) (T := TX7) C 1 dX7_isClear_22 rfl hg rfl rfl (by decide) inX7 w_212 rfl ?_
      refine g_iload_n (n := 26) C dX7_isClear_25 rfl rfl ?_
      refine g_iconst (n := 27) (v := 1) C dX7_isClear_26 rfl (by decide) ?_
      refine g_iadd (n := 28) C dX7_isClear_27 rfl ?_
      rw [nI_1 l9]
      refine g_iload_n (n := 29) C dX7_isClear_28 rfl rfl ?_
      refine g_iload_n (n := 30) C dX7_isClear_29 rfl rfl ?_
      refine g_iload (n := 32) C dX7_isClear_30 rfl rfl ?_
      refine g_callS (n := 35) (As := [.int _, .int _, .int _, .int _]) C dX7_isClear_32 rfl mw_X7_place w_342 rfl rfl (room hR rfl) (cc_place (l9 := l9 + 1) (t9 := t9) (r9 := r9) (b9 := b9) (by have := (show l9 < r9 from by rcases Nat.lt_or_ge l9 r9 with q | q; exact q; exact absurd (nI_le q (by omega)) zc2); omega) (by omega) (by omega) (by omega) ?_)
      refine f_zald (n := 36) (cpl (l9 + 1) t9 r9 b9) C dX7_isClear_35 rfl hc rfl (cpl_lt (by have := (show l9 < r9 from by rcases Nat.lt_or_ge l9 r9 with q | q; exact q; exact absurd (nI_le q (by omega)) zc2); omega) h2 h3 h4) (by decide) (rfl) ?_
      refine g_if_eq (n := 39) (t := 43) C dX7_isClear_36 rfl (by decide) (fun zc36 => ?_) (fun zc36 => ?_)
      · --t36
        refine g_iconst (n := 44) (v := 0) C dX7_isClear_43 rfl (by decide) ?_
        refine g_zret C dX7_isClear_44 (by decide) (by decide) (by rfl) ?_
        first | exact k0 (fun zq => zq.elim (fun z => z.2.1 zc18) (fun z => z.elim (fun y => y.1 (show l9 < r9 from by rcases Nat.lt_or_ge l9 r9 with q | q; exact q; exact absurd (nI_le q (by omega)) zc2)) (fun y => y.1 (show l9 < r9 from by rcases Nat.lt_or_ge l9 r9 with q | q; exact q; exact absurd (nI_le q (by omega)) zc2)))) | exact k0 (fun zq => zq.elim (fun z => z.2.2 zc36) (fun z => z.elim (fun y => y.1 (show l9 < r9 from by rcases Nat.lt_or_ge l9 r9 with q | q; exact q; exact absurd (nI_le q (by omega)) zc2)) (fun y => y.1 (show l9 < r9 from by rcases Nat.lt_or_ge l9 r9 with q | q; exact q; exact absurd (nI_le q (by omega)) zc2))))
      · --f36
        refine g_iconst (n := 40) (v := 1) C dX7_isClear_39 rfl (by decide) ?_
        refine g_goto (t := 44) C dX7_isClear_40 (by decide) ?_
        refine g_zret C dX7_isClear_44 (by decide) (by decide) (by rfl) ?_
        exact k1 (Or.inl ⟨(show l9 < r9 from by rcases Nat.lt_or_ge l9 r9 with q | q; exact q; exact absurd (nI_le q (by omega)) zc2), zc18, zc36⟩)
