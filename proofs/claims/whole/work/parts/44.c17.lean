theorem dX7_init_0 : decode cX7_init 0 = .ok (.aload_n 0, 1) := by decide +kernel
theorem dX7_init_1 : decode cX7_init 1 = .ok (.invokespecial 1, 3) := by decide +kernel
theorem dX7_init_4 : decode cX7_init 4 = .ok (.aload_n 0, 1) := by decide +kernel
theorem dX7_init_5 : decode cX7_init 5 = .ok (.bipush 80, 2) := by decide +kernel
theorem dX7_init_7 : decode cX7_init 7 = .ok (.newarray .boolean, 2) := by decide +kernel
theorem dX7_init_9 : decode cX7_init 9 = .ok (.putfield 9, 3) := by decide +kernel
theorem dX7_init_12 : decode cX7_init 12 = .ok (.aload_n 0, 1) := by decide +kernel
theorem dX7_init_13 : decode cX7_init 13 = .ok (.sipush 1980, 3) := by decide +kernel
theorem dX7_init_16 : decode cX7_init 16 = .ok (.newarray .boolean, 2) := by decide +kernel
theorem dX7_init_18 : decode cX7_init 18 = .ok (.putfield 13, 3) := by decide +kernel
theorem dX7_init_21 : decode cX7_init 21 = .ok (.aload_n 0, 1) := by decide +kernel
theorem dX7_init_22 : decode cX7_init 22 = .ok (.sipush 1980, 3) := by decide +kernel
theorem dX7_init_25 : decode cX7_init 25 = .ok (.newarray .int, 2) := by decide +kernel
theorem dX7_init_27 : decode cX7_init 27 = .ok (.putfield 16, 3) := by decide +kernel
theorem dX7_init_30 : decode cX7_init 30 = .ok (.aload_n 0, 1) := by decide +kernel
theorem dX7_init_31 : decode cX7_init 31 = .ok (.sipush 1980, 3) := by decide +kernel
theorem dX7_init_34 : decode cX7_init 34 = .ok (.newarray .int, 2) := by decide +kernel
theorem dX7_init_36 : decode cX7_init 36 = .ok (.putfield 20, 3) := by decide +kernel
theorem dX7_init_39 : decode cX7_init 39 = .ok (.aload_n 0, 1) := by decide +kernel
theorem dX7_init_40 : decode cX7_init 40 = .ok (.iconst 1, 1) := by decide +kernel
theorem dX7_init_41 : decode cX7_init 41 = .ok (.putfield 23, 3) := by decide +kernel
theorem dX7_init_44 : decode cX7_init 44 = .ok (.aload_n 0, 1) := by decide +kernel
theorem dX7_init_45 : decode cX7_init 45 = .ok (.iconst 1, 1) := by decide +kernel
theorem dX7_init_46 : decode cX7_init 46 = .ok (.putfield 27, 3) := by decide +kernel
theorem dX7_init_49 : decode cX7_init 49 = .ok (.aload_n 0, 1) := by decide +kernel
theorem dX7_init_50 : decode cX7_init 50 = .ok (.iconst 0, 1) := by decide +kernel
theorem dX7_init_51 : decode cX7_init 51 = .ok (.putfield 30, 3) := by decide +kernel
theorem dX7_init_54 : decode cX7_init 54 = .ok (.return_, 1) := by decide +kernel
set_option maxHeartbeats 400000 in
set_option maxRecDepth 20000 in
theorem cc_roughInit {l : Launch} {E : Ev} {P : Value → AH → Prop}  {g : Nat} {h : AH} (hp : ∀ fl cl wo fe, fl ∉ [g] → cl ∉ [g, fl] → wo ∉ [g, fl, cl] → fe ∉ [g, fl, cl, wo] → h fl = none → h cl = none → h wo = none → h fe = none → P .null (LW [(g, (.inr (7, [.ref fl, .ref cl, .ref wo, .ref fe, .int 1, .int 1, .int 0]))), (fl, .inl (E.2.2 2, 80, .inl (fun _ => 0))), (cl, .inl (E.2.2 2, 1980, .inl (fun _ => 0))), (wo, .inl (E.2.2 1, 1980, .inl (fun _ => 0))), (fe, .inl (E.2.2 1, 1980, .inl (fun _ => 0)))] h)) : Mt l E yX7_init cX7_init 1 none 1 20 4 6020 [.ref g] (LW [(g, (.inr (7, [.null, .null, .null, .null, .int 0, .int 0, .int 0])))] h) P := by
  refine Mt.of (by decide) (Nat.le_of_ble_eq_true rfl) ?_
  intro K hK hR C
  have A0 : lA [(g, ((.inr (7, [.null, .null, .null, .null, .int 0, .int 0, .int 0])) : va_E))] := lA_one _ _
  refine g_aload_n (n := 1) C dX7_init_0 rfl rfl ?_
  refine g_objInit (n := 4) C dX7_init_1 rfl w_210 w_72 w_73 (roomF hR rfl) (roomL hR rfl) ?_
  refine g_aload_n (n := 5) C dX7_init_4 rfl rfl ?_
  refine g_bipush (n := 7) (v := 80) C dX7_init_5 rfl (by decide) ?_
  refine g_newa (n := 9) C 2 (N := 80) (a0 := (80, .inl (fun _ => 0))) dX7_init_7 rfl rfl rfl (fun _ h => h) w_233 (fun _ => rfl) (by decide) (by decide) (by decide) (roomC hR rfl) (roomS hR rfl) ?_
  intro fl zffl zefl
  have Afl := lA_new (e := .inl (E.2.2 2, 80, .inl (fun _ => 0))) (by exact A0) zffl
  have znfl := LW_none zffl
  rw [LW_new zffl]
  dsimp only [List.cons_append, List.nil_append] at Afl ⊢
  refine l_putF (n := 12) (T := TX7) (ty0 := tyX7) C 0 0 dX7_init_9 rfl Afl rfl rfl (by decide) inX7 w_211 rfl tyX7_ok nmX7 rfl rfl rfl rfl rfl rfl (by show 0 < 7; decide) ?_
  dsimp only [List.set]
  refine g_aload_n (n := 13) C dX7_init_12 rfl rfl ?_
  refine g_sipush (n := 16) (v := 1980) C dX7_init_13 rfl (by decide) ?_
  refine g_newa (n := 18) C 2 (N := 1980) (a0 := (1980, .inl (fun _ => 0))) dX7_init_16 rfl rfl rfl (fun _ h => h) w_233 (fun _ => rfl) (by decide) (by decide) (by decide) (roomC hR rfl) (roomS hR rfl) ?_
  intro cl zfcl zecl
  have Acl := lA_new (e := .inl (E.2.2 2, 1980, .inl (fun _ => 0))) (by exact Afl) zfcl
  have zncl := LW_none zfcl
  rw [LW_new zfcl]
  dsimp only [List.cons_append, List.nil_append] at Acl ⊢
  refine l_putF (n := 21) (T := TX7) (ty0 := tyX7) C 0 1 dX7_init_18 rfl Acl rfl rfl (by decide) inX7 w_212 rfl tyX7_ok nmX7 rfl rfl rfl rfl rfl rfl (by show 1 < 7; decide) ?_
  dsimp only [List.set]
  refine g_aload_n (n := 22) C dX7_init_21 rfl rfl ?_
  refine g_sipush (n := 25) (v := 1980) C dX7_init_22 rfl (by decide) ?_
  refine g_newa (n := 27) C 1 (N := 1980) (a0 := (1980, .inl (fun _ => 0))) dX7_init_25 rfl rfl rfl (fun _ h => h) w_142 (fun _ => rfl) (by decide) (by decide) (by decide) (roomC hR rfl) (roomS hR rfl) ?_
  intro wo zfwo zewo
  have Awo := lA_new (e := .inl (E.2.2 1, 1980, .inl (fun _ => 0))) (by exact Acl) zfwo
  have znwo := LW_none zfwo
  rw [LW_new zfwo]
  dsimp only [List.cons_append, List.nil_append] at Awo ⊢
  refine l_putF (n := 30) (T := TX7) (ty0 := tyX7) C 0 2 dX7_init_27 rfl Awo rfl rfl (by decide) inX7 w_213 rfl tyX7_ok nmX7 rfl rfl rfl rfl rfl rfl (by show 2 < 7; decide) ?_
  dsimp only [List.set]
  refine g_aload_n (n := 31) C dX7_init_30 rfl rfl ?_
  refine g_sipush (n := 34) (v := 1980) C dX7_init_31 rfl (by decide) ?_
  refine g_newa (n := 36) C 1 (N := 1980) (a0 := (1980, .inl (fun _ => 0))) dX7_init_34 rfl rfl rfl (fun _ h => h) w_142 (fun _ => rfl) (by decide) (by decide) (by decide) (roomC hR rfl) (roomS hR rfl) ?_
  intro fe zffe zefe
  have Afe := lA_new (e := .inl (E.2.2 1, 1980, .inl (fun _ => 0))) (by exact Awo) zffe
  have znfe := LW_none zffe
  rw [LW_new zffe]
  dsimp only [List.cons_append, List.nil_append] at Afe ⊢
  refine l_putF (n := 39) (T := TX7) (ty0 := tyX7) C 0 3 dX7_init_36 rfl Afe rfl rfl (by decide) inX7 w_214 rfl tyX7_ok nmX7 rfl rfl rfl rfl rfl rfl (by show 3 < 7; decide) ?_
  dsimp only [List.set]
  refine g_aload_n (n := 40) C dX7_init_39 rfl rfl ?_
  refine g_iconst (n := 41) (v := 1) C dX7_init_40 rfl (by decide) ?_
  refine l_put (n := 44) (T := TX7) (ty0 := tyX7) C 0 4 dX7_init_41 rfl Afe rfl rfl (by decide) inX7 w_215 rfl tyX7_ok nmX7 rfl rfl rfl rfl (by show 4 < 7; decide) ?_
  dsimp only [List.set]
  refine g_aload_n (n := 45) C dX7_init_44 rfl rfl ?_
  refine g_iconst (n := 46) (v := 1) C dX7_init_45 rfl (by decide) ?_
  refine l_put (n := 49) (T := TX7) (ty0 := tyX7) C 0 5 dX7_init_46 rfl Afe rfl rfl (by decide) inX7 w_216 rfl tyX7_ok nmX7 rfl rfl rfl rfl (by show 5 < 7; decide) ?_
  dsimp only [List.set]
  refine g_aload_n (n := 50) C dX7_init_49 rfl rfl ?_
  refine g_iconst (n := 51) (v := 0) C dX7_init_50 rfl (by decide) ?_
  refine l_put (n := 54) (T := TX7) (ty0 := tyX7) C 0 6 dX7_init_51 rfl Afe rfl rfl (by decide) inX7 w_217 rfl tyX7_ok nmX7 rfl rfl rfl rfl (by show 6 < 7; decide) ?_
  dsimp only [List.set]
  refine g_vret C dX7_init_54 (by decide) (by decide) ?_
  exact hp fl cl wo fe znfl.1 zncl.1 znwo.1 znfe.1 znfl.2 zncl.2 znwo.2 znfe.2
