theorem dX8_buyerFor_0 : decode cX8_buyerFor 0 = .ok (.iconst (-1), 1) := by decide +kernel
theorem dX8_buyerFor_1 : decode cX8_buyerFor 1 = .ok (.istore_n 2, 1) := by decide +kernel
theorem dX8_buyerFor_2 : decode cX8_buyerFor 2 = .ok (.iload_n 1, 1) := by decide +kernel
theorem dX8_buyerFor_3 : decode cX8_buyerFor 3 = .ok (.iconst 1, 1) := by decide +kernel
theorem dX8_buyerFor_4 : decode cX8_buyerFor 4 = .ok (.isub, 1) := by decide +kernel
theorem dX8_buyerFor_5 : decode cX8_buyerFor 5 = .ok (.istore_n 3, 1) := by decide +kernel
theorem dX8_buyerFor_6 : decode cX8_buyerFor 6 = .ok (.iconst 0, 1) := by decide +kernel
theorem dX8_buyerFor_7 : decode cX8_buyerFor 7 = .ok (.istore 4, 2) := by decide +kernel
theorem dX8_buyerFor_9 : decode cX8_buyerFor 9 = .ok (.iload 4, 2) := by decide +kernel
theorem dX8_buyerFor_11 : decode cX8_buyerFor 11 = .ok (.bipush 6, 2) := by decide +kernel
theorem dX8_buyerFor_13 : decode cX8_buyerFor 13 = .ok (.if_icmp .ge 42, 3) := by decide +kernel
theorem dX8_buyerFor_16 : decode cX8_buyerFor 16 = .ok (.aload_n 0, 1) := by decide +kernel
theorem dX8_buyerFor_17 : decode cX8_buyerFor 17 = .ok (.getfield 9, 3) := by decide +kernel
theorem dX8_buyerFor_20 : decode cX8_buyerFor 20 = .ok (.iload 4, 2) := by decide +kernel
theorem dX8_buyerFor_22 : decode cX8_buyerFor 22 = .ok (.iaload, 1) := by decide +kernel
theorem dX8_buyerFor_23 : decode cX8_buyerFor 23 = .ok (.iconst (-1), 1) := by decide +kernel
theorem dX8_buyerFor_24 : decode cX8_buyerFor 24 = .ok (.if_icmp .eq 25, 3) := by decide +kernel
theorem dX8_buyerFor_27 : decode cX8_buyerFor 27 = .ok (.aload_n 0, 1) := by decide +kernel
theorem dX8_buyerFor_28 : decode cX8_buyerFor 28 = .ok (.getfield 9, 3) := by decide +kernel
theorem dX8_buyerFor_31 : decode cX8_buyerFor 31 = .ok (.iload 4, 2) := by decide +kernel
theorem dX8_buyerFor_33 : decode cX8_buyerFor 33 = .ok (.iaload, 1) := by decide +kernel
theorem dX8_buyerFor_34 : decode cX8_buyerFor 34 = .ok (.iload_n 3, 1) := by decide +kernel
theorem dX8_buyerFor_35 : decode cX8_buyerFor 35 = .ok (.if_icmp .le 14, 3) := by decide +kernel
theorem dX8_buyerFor_38 : decode cX8_buyerFor 38 = .ok (.iload 4, 2) := by decide +kernel
theorem dX8_buyerFor_40 : decode cX8_buyerFor 40 = .ok (.istore_n 2, 1) := by decide +kernel
theorem dX8_buyerFor_41 : decode cX8_buyerFor 41 = .ok (.aload_n 0, 1) := by decide +kernel
theorem dX8_buyerFor_42 : decode cX8_buyerFor 42 = .ok (.getfield 9, 3) := by decide +kernel
theorem dX8_buyerFor_45 : decode cX8_buyerFor 45 = .ok (.iload 4, 2) := by decide +kernel
theorem dX8_buyerFor_47 : decode cX8_buyerFor 47 = .ok (.iaload, 1) := by decide +kernel
theorem dX8_buyerFor_48 : decode cX8_buyerFor 48 = .ok (.istore_n 3, 1) := by decide +kernel
theorem dX8_buyerFor_49 : decode cX8_buyerFor 49 = .ok (.iinc 4 1, 3) := by decide +kernel
theorem dX8_buyerFor_52 : decode cX8_buyerFor 52 = .ok (.goto (-43), 3) := by decide +kernel
theorem dX8_buyerFor_55 : decode cX8_buyerFor 55 = .ok (.iload_n 2, 1) := by decide +kernel
theorem dX8_buyerFor_56 : decode cX8_buyerFor 56 = .ok (.ireturn, 1) := by decide +kernel
set_option maxHeartbeats 1000000 in
set_option maxRecDepth 20000 in
theorem cc_buyerFor {l : Launch} {E : Ev} {P : Value → AH → Prop}  {a hs sh : Nat} {pi ba bu pr : Int32} {h : AH} (ha : h a = some (.inr (8, [.int pi, .int ba, .ref hs, .ref sh, .int bu, .int pr]))) {G9 : Nat → Int32} (hh : h hs = some (.inl (E.2.2 1, 6, .inl G9))) {lim : Int32} (hp : P (.int (cbuy G9 lim 6).1) h) : Mt l E yX8_buyerFor cX8_buyerFor 5 (some .int) 0 0 0 0 [.ref a, .int lim] (h) P := by
  refine Mt.of (by decide) (Nat.le_of_ble_eq_true rfl) ?_
  intro K hK hR C
  refine g_iconst (n := 1) (v := (-1)) C dX8_buyerFor_0 rfl (by decide) ?_
  refine g_istore_n (n := 2) C dX8_buyerFor_1 rfl (by decide) ?_
  refine g_iload_n (n := 3) C dX8_buyerFor_2 rfl rfl ?_
  refine g_iconst (n := 4) (v := 1) C dX8_buyerFor_3 rfl (by decide) ?_
  refine g_isub (n := 5) C dX8_buyerFor_4 rfl ?_
  refine g_istore_n (n := 6) C dX8_buyerFor_5 rfl (by decide) ?_
  refine g_iconst (n := 7) (v := 0) C dX8_buyerFor_6 rfl (by decide) ?_
  refine g_istore (n := 9) C dX8_buyerFor_7 rfl (by decide) ?_
  have lp : ∀ p : Nat, p ≤ 6 → ∀ (z y t9 : Int32), (z, y) = cbuy G9 lim p → t9 = nI p → G K E 5 (QM K E (some .int) 0 0 P) 0 0 9 [(0, .ref a), (1, .int lim), (2, .int z), (3, .int y), (4, .int t9)] [] (h) := by
    refine loopN (fun p => ∀ (z y t9 : Int32), (z, y) = cbuy G9 lim p → t9 = nI p → G K E 5 (QM K E (some .int) 0 0 P) 0 0 9 [(0, .ref a), (1, .int lim), (2, .int z), (3, .int y), (4, .int t9)] [] (h)) (6) ?_
    intro p hlep ihp z y t9 ez et
    subst et
    refine g_iload (n := 11) C dX8_buyerFor_9 rfl rfl ?_
    refine g_bipush (n := 13) (v := 6) C dX8_buyerFor_11 rfl (by decide) ?_
    refine g_icmp_ge (n := 16) (t := 55) C dX8_buyerFor_13 rfl (by decide) (fun zc13 => ?_) (fun zc13 => ?_)
    · --t13
      refine g_iload_n (n := 56) C dX8_buyerFor_55 rfl rfl ?_
      refine g_iret C dX8_buyerFor_56 (by decide) (by decide) ?_
      have ep : p = 6 := i_eq (n := 6) rfl zc13 hlep (by decide)
      subst ep
      rw [← ez] at hp
      exact hp
    · --f13
      refine g_aload_n (n := 17) C dX8_buyerFor_16 rfl rfl ?_
      refine g_get (n := 20) (T := TX8) C 2 dX8_buyerFor_17 rfl ha rfl rfl (by decide) inX8 w_962 rfl ?_
      refine g_iload (n := 22) C dX8_buyerFor_20 rfl rfl ?_
      refine f_iald (n := 23) (p) C dX8_buyerFor_22 rfl hh rfl (i_lt (n := 6) rfl zc13 hlep (by decide)) (by decide) (rfl) ?_
      refine g_iconst (n := 24) (v := (-1)) C dX8_buyerFor_23 rfl (by decide) ?_
      refine g_icmp_eq (n := 27) (t := 49) C dX8_buyerFor_24 rfl (by decide) (fun zc24 => ?_) (fun zc24 => ?_)
      · --t24
        refine g_iinc (n := 52) C dX8_buyerFor_49 rfl rfl rfl (by decide) ?_
        refine g_goto (t := 9) C dX8_buyerFor_52 (by decide) ?_
        exact g_lv [0, 1, 2, 3, 4] rfl (ihp (i_lt (n := 6) rfl zc13 hlep (by decide)) _ _ _ (by first | exact cbuy_1 zc24 (by rw [← ez]; exact Int32.not_le.mp zc35) | exact ez.trans (cbuy_0 (fun zq => zq.1 zc24)) | exact ez.trans (cbuy_0 (fun zq => by rw [← ez] at zq; exact Int32.not_le.mpr zq.2 zc35))) (nI_1 p))
      · --f24
        refine g_aload_n (n := 28) C dX8_buyerFor_27 rfl rfl ?_
        refine g_get (n := 31) (T := TX8) C 2 dX8_buyerFor_28 rfl ha rfl rfl (by decide) inX8 w_962 rfl ?_
        refine g_iload (n := 33) C dX8_buyerFor_31 rfl rfl ?_
        refine f_iald (n := 34) (p) C dX8_buyerFor_33 rfl hh rfl (i_lt (n := 6) rfl zc13 hlep (by decide)) (by decide) (rfl) ?_
        refine g_iload_n (n := 35) C dX8_buyerFor_34 rfl rfl ?_
        refine g_icmp_le (n := 38) (t := 49) C dX8_buyerFor_35 rfl (by decide) (fun zc35 => ?_) (fun zc35 => ?_)
        · --t35
          refine g_iinc (n := 52) C dX8_buyerFor_49 rfl rfl rfl (by decide) ?_
          refine g_goto (t := 9) C dX8_buyerFor_52 (by decide) ?_
          exact g_lv [0, 1, 2, 3, 4] rfl (ihp (i_lt (n := 6) rfl zc13 hlep (by decide)) _ _ _ (by first | exact cbuy_1 zc24 (by rw [← ez]; exact Int32.not_le.mp zc35) | exact ez.trans (cbuy_0 (fun zq => zq.1 zc24)) | exact ez.trans (cbuy_0 (fun zq => by rw [← ez] at zq; exact Int32.not_le.mpr zq.2 zc35))) (nI_1 p))
        · --f35
          refine g_iload (n := 40) C dX8_buyerFor_38 rfl rfl ?_
          refine g_istore_n (n := 41) C dX8_buyerFor_40 rfl (by decide) ?_
          refine g_aload_n (n := 42) C dX8_buyerFor_41 rfl rfl ?_
          refine g_get (n := 45) (T := TX8) C 2 dX8_buyerFor_42 rfl ha rfl rfl (by decide) inX8 w_962 rfl ?_
          refine g_iload (n := 47) C dX8_buyerFor_45 rfl rfl ?_
          refine f_iald (n := 48) (p) C dX8_buyerFor_47 rfl hh rfl (i_lt (n := 6) rfl zc13 hlep (by decide)) (by decide) (rfl) ?_
          refine g_istore_n (n := 49) C dX8_buyerFor_48 rfl (by decide) ?_
          refine g_iinc (n := 52) C dX8_buyerFor_49 rfl rfl rfl (by decide) ?_
          refine g_goto (t := 9) C dX8_buyerFor_52 (by decide) ?_
          exact g_lv [0, 1, 2, 3, 4] rfl (ihp (i_lt (n := 6) rfl zc13 hlep (by decide)) _ _ _ (by first | exact cbuy_1 zc24 (by rw [← ez]; exact Int32.not_le.mp zc35) | exact ez.trans (cbuy_0 (fun zq => zq.1 zc24)) | exact ez.trans (cbuy_0 (fun zq => by rw [← ez] at zq; exact Int32.not_le.mpr zq.2 zc35))) (nI_1 p))
  exact g_lv [0, 1, 2, 3, 4] rfl (lp 0 (Nat.zero_le _) _ _ _ rfl rfl)
theorem dX8_init_0 : decode cX8_init 0 = .ok (.aload_n 0, 1) := by decide +kernel
theorem dX8_init_1 : decode cX8_init 1 = .ok (.invokespecial 3, 3) := by decide +kernel
theorem dX8_init_4 : decode cX8_init 4 = .ok (.aload_n 0, 1) := by decide +kernel
theorem dX8_init_5 : decode cX8_init 5 = .ok (.bipush 6, 2) := by decide +kernel
theorem dX8_init_7 : decode cX8_init 7 = .ok (.newarray .int, 2) := by decide +kernel
theorem dX8_init_9 : decode cX8_init 9 = .ok (.putfield 9, 3) := by decide +kernel
theorem dX8_init_12 : decode cX8_init 12 = .ok (.aload_n 0, 1) := by decide +kernel
theorem dX8_init_13 : decode cX8_init 13 = .ok (.bipush 6, 2) := by decide +kernel
theorem dX8_init_15 : decode cX8_init 15 = .ok (.newarray .int, 2) := by decide +kernel
theorem dX8_init_17 : decode cX8_init 17 = .ok (.putfield 15, 3) := by decide +kernel
theorem dX8_init_20 : decode cX8_init 20 = .ok (.aload_n 0, 1) := by decide +kernel
theorem dX8_init_21 : decode cX8_init 21 = .ok (.iload_n 1, 1) := by decide +kernel
theorem dX8_init_22 : decode cX8_init 22 = .ok (.putfield 18, 3) := by decide +kernel
theorem dX8_init_25 : decode cX8_init 25 = .ok (.aload_n 0, 1) := by decide +kernel
theorem dX8_init_26 : decode cX8_init 26 = .ok (.iload_n 2, 1) := by decide +kernel
theorem dX8_init_27 : decode cX8_init 27 = .ok (.putfield 22, 3) := by decide +kernel
theorem dX8_init_30 : decode cX8_init 30 = .ok (.aload_n 0, 1) := by decide +kernel
theorem dX8_init_31 : decode cX8_init 31 = .ok (.getfield 9, 3) := by decide +kernel
theorem dX8_init_34 : decode cX8_init 34 = .ok (.iconst (-1), 1) := by decide +kernel
theorem dX8_init_35 : decode cX8_init 35 = .ok (.invokestatic 25, 3) := by decide +kernel
theorem dX8_init_38 : decode cX8_init 38 = .ok (.aload_n 0, 1) := by decide +kernel
theorem dX8_init_39 : decode cX8_init 39 = .ok (.iconst (-1), 1) := by decide +kernel
theorem dX8_init_40 : decode cX8_init 40 = .ok (.putfield 31, 3) := by decide +kernel
theorem dX8_init_43 : decode cX8_init 43 = .ok (.aload_n 0, 1) := by decide +kernel
theorem dX8_init_44 : decode cX8_init 44 = .ok (.iconst (-1), 1) := by decide +kernel
theorem dX8_init_45 : decode cX8_init 45 = .ok (.putfield 34, 3) := by decide +kernel
theorem dX8_init_48 : decode cX8_init 48 = .ok (.return_, 1) := by decide +kernel
set_option maxHeartbeats 400000 in
set_option maxRecDepth 20000 in
theorem cc_stoneInit {l : Launch} {E : Ev} {P : Value → AH → Prop}  {a : Nat} {pi ba : Int32} {h : AH} (hp : ∀ hs sh, hs ∉ [a] → sh ∉ [a, hs] → h hs = none → h sh = none → P .null (LW [(a, (.inr (8, [.int pi, .int ba, .ref hs, .ref sh, .int (-1), .int (-1)]))), (hs, .inl (E.2.2 1, 6, .inl (flf (fun _ => 0) (-1) 6))), (sh, .inl (E.2.2 1, 6, .inl (fun _ => 0)))] h)) : Mt l E yX8_init cX8_init 3 none 1 23 2 12 [.ref a, .int pi, .int ba] (LW [(a, (.inr (8, [.int 0, .int 0, .null, .null, .int 0, .int 0])))] h) P := by
  refine Mt.of (by decide) (Nat.le_of_ble_eq_true rfl) ?_
  intro K hK hR C
  have A0 : lA [(a, ((.inr (8, [.int 0, .int 0, .null, .null, .int 0, .int 0])) : va_E))] := lA_one _ _
  refine g_aload_n (n := 1) C dX8_init_0 rfl rfl ?_
  refine g_objInit (n := 4) C dX8_init_1 rfl w_956 w_72 w_73 (roomF hR rfl) (roomL hR rfl) ?_
  refine g_aload_n (n := 5) C dX8_init_4 rfl rfl ?_
  refine g_bipush (n := 7) (v := 6) C dX8_init_5 rfl (by decide) ?_
  refine g_newa (n := 9) C 1 (N := 6) (a0 := (6, .inl (fun _ => 0))) dX8_init_7 rfl rfl rfl (fun _ h => h) w_142 (fun _ => rfl) (by decide) (by decide) (by decide) (roomC hR rfl) (roomS hR rfl) ?_
  intro hs zfhs zehs
  have Ahs := lA_new (e := .inl (E.2.2 1, 6, .inl (fun _ => 0))) (by exact A0) zfhs
  have znhs := LW_none zfhs
  rw [LW_new zfhs]
  dsimp only [List.cons_append, List.nil_append] at Ahs ⊢
  refine l_putF (n := 12) (T := TX8) (ty0 := tyX8) C 0 2 dX8_init_9 rfl Ahs rfl rfl (by decide) inX8 w_962 rfl tyX8_ok nmX8 rfl rfl rfl rfl rfl rfl (by show 2 < 6; decide) ?_
  dsimp only [List.set]
  refine g_aload_n (n := 13) C dX8_init_12 rfl rfl ?_
  refine g_bipush (n := 15) (v := 6) C dX8_init_13 rfl (by decide) ?_
  refine g_newa (n := 17) C 1 (N := 6) (a0 := (6, .inl (fun _ => 0))) dX8_init_15 rfl rfl rfl (fun _ h => h) w_142 (fun _ => rfl) (by decide) (by decide) (by decide) (roomC hR rfl) (roomS hR rfl) ?_
  intro sh zfsh zesh
  have Ash := lA_new (e := .inl (E.2.2 1, 6, .inl (fun _ => 0))) (by exact Ahs) zfsh
  have znsh := LW_none zfsh
  rw [LW_new zfsh]
  dsimp only [List.cons_append, List.nil_append] at Ash ⊢
  refine l_putF (n := 20) (T := TX8) (ty0 := tyX8) C 0 3 dX8_init_17 rfl Ash rfl rfl (by decide) inX8 w_964 rfl tyX8_ok nmX8 rfl rfl rfl rfl rfl rfl (by show 3 < 6; decide) ?_
  dsimp only [List.set]
  refine g_aload_n (n := 21) C dX8_init_20 rfl rfl ?_
  refine g_iload_n (n := 22) C dX8_init_21 rfl rfl ?_
  refine l_putF (n := 25) (T := TX8) (ty0 := tyX8) C 0 0 dX8_init_22 rfl Ash rfl rfl (by decide) inX8 w_958 rfl tyX8_ok nmX8 rfl rfl rfl rfl rfl rfl (by show 0 < 6; decide) ?_
  dsimp only [List.set]
  refine g_aload_n (n := 26) C dX8_init_25 rfl rfl ?_
  refine g_iload_n (n := 27) C dX8_init_26 rfl rfl ?_
  refine l_putF (n := 30) (T := TX8) (ty0 := tyX8) C 0 1 dX8_init_27 rfl Ash rfl rfl (by decide) inX8 w_960 rfl tyX8_ok nmX8 rfl rfl rfl rfl rfl rfl (by show 1 < 6; decide) ?_
  dsimp only [List.set]
  refine g_aload_n (n := 31) C dX8_init_30 rfl rfl ?_
  refine l_get (n := 34) (T := TX8) C 0 2 dX8_init_31 rfl Ash rfl rfl rfl (by decide) inX8 w_962 rfl ?_
  refine g_iconst (n := 35) (v := (-1)) C dX8_init_34 rfl (by decide) ?_
  refine g_callS (n := 38) (As := [.ref hs, .int (-1)]) C dX8_init_35 rfl mw_J7_fill_53178 w_957 rfl rfl (room hR rfl) (ct_fillA (LW_at (by exact Ash) 1 rfl) (by decide) ?_)
  rw [LW_put (L := [(a, (.inr (8, [.int pi, .int ba, .ref hs, .ref sh, .int 0, .int 0]) : va_E)), (hs, .inl (E.2.2 1, 6, .inl (fun _ => 0))), (sh, .inl (E.2.2 1, 6, .inl (fun _ => 0)))]) Ash 1 rfl]
  dsimp only [List.set]
  refine g_aload_n (n := 39) C dX8_init_38 rfl rfl ?_
  refine g_iconst (n := 40) (v := (-1)) C dX8_init_39 rfl (by decide) ?_
  refine l_put (n := 43) (T := TX8) (ty0 := tyX8) C 0 4 dX8_init_40 rfl Ash rfl rfl (by decide) inX8 w_967 rfl tyX8_ok nmX8 rfl rfl rfl rfl (by show 4 < 6; decide) ?_
  dsimp only [List.set]
  refine g_aload_n (n := 44) C dX8_init_43 rfl rfl ?_
  refine g_iconst (n := 45) (v := (-1)) C dX8_init_44 rfl (by decide) ?_
  refine l_put (n := 48) (T := TX8) (ty0 := tyX8) C 0 5 dX8_init_45 rfl Ash rfl rfl (by decide) inX8 w_970 rfl tyX8_ok nmX8 rfl rfl rfl rfl (by show 5 < 6; decide) ?_
  dsimp only [List.set]
  refine g_vret C dX8_init_48 (by decide) (by decide) ?_
  exact hp hs sh znhs.1 znsh.1 znhs.2 znsh.2
