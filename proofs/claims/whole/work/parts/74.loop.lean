theorem dL_law__23 : decode cL_law_ 23 = .ok (.iload 4, 2) := by decide +kernel
theorem dL_law__25 : decode cL_law_ 25 = .ok (.aload_n 0, 1) := by decide +kernel
theorem dL_law__26 : decode cL_law_ 26 = .ok (.arraylength, 1) := by decide +kernel
theorem dL_law__27 : decode cL_law_ 27 = .ok (.bipush 6, 2) := by decide +kernel
theorem dL_law__29 : decode cL_law_ 29 = .ok (.isub, 1) := by decide +kernel
theorem dL_law__30 : decode cL_law_ 30 = .ok (.if_icmp .gt 1323, 3) := by decide +kernel
theorem dL_law__33 : decode cL_law_ 33 = .ok (.aload_n 0, 1) := by decide +kernel
theorem dL_law__34 : decode cL_law_ 34 = .ok (.iload 4, 2) := by decide +kernel
theorem dL_law__36 : decode cL_law_ 36 = .ok (.iaload, 1) := by decide +kernel
theorem dL_law__37 : decode cL_law_ 37 = .ok (.bipush 31, 2) := by decide +kernel
theorem dL_law__39 : decode cL_law_ 39 = .ok (.iand, 1) := by decide +kernel
theorem dL_law__40 : decode cL_law_ 40 = .ok (.tableswitch 1307 0 22 #[108, 181, 206, 242, 286, 330, 343, 399, 474, 537, 593, 677, 690, 758, 826, 882, 969, 1037, 1105, 1153, 1256, 1269, 1282], 108) := by decide +kernel
theorem dL_law__1347 : decode cL_law_ 1347 = .ok (.iinc 4 6, 3) := by decide +kernel
theorem dL_law__1350 : decode cL_law_ 1350 = .ok (.goto (-1327), 3) := by decide +kernel
set_option maxHeartbeats 4000000 in
set_option maxRecDepth 20000 in
theorem law_loop {K : Cx} {E : Ev} {nm : String} {Q : State → Prop} {sa x o ou L : Nat} {xs : Nat → Int32} (C : GX K E cL_law_ 7 RL (some .boolean) nm) (hK : kR K = room_1) (hl9 : (kl K).stackTraces = false) (S : SX K E sa L xs) (hL : L ≤ 3072) (kret : ∀ (cs ss : Nat) (lv : List (Nat × Value)) (h : AH), cs ≤ 601024 → ss ≤ 7293034 → G K E 7 Q cs ss 1353 lv [] h) : ∀ p : Nat, p ≤ L / 6 → ∀ (F : Nat → Int32) (A : Nat → Nat → Int32) (n m : Nat) (h : AH), WI E x o ou F A n m F A h → G K E 7 Q (40 + 8 * p) (22000 + 200 * p) 23 [(0, .ref sa), (1, .ref x), (2, .ref o), (3, .ref ou), (4, .int (nI (6 * p)))] [] h := by
  refine loopN (fun p => ∀ (F : Nat → Int32) (A : Nat → Nat → Int32) (n m : Nat) (h : AH), WI E x o ou F A n m F A h → G K E 7 Q (40 + 8 * p) (22000 + 200 * p) 23 [(0, .ref sa), (1, .ref x), (2, .ref o), (3, .ref ou), (4, .int (nI (6 * p)))] [] h) (L / 6) ?_
  intro p hle ih F A n m h I
  have hp6 : 6 * p ≤ L := by omega
  have back : 6 * p + 6 ≤ L → ∀ F9 A9 n9 m9 h9, WI E x o ou F9 A9 n9 m9 F9 A9 h9 → G K E 7 Q (40 + 8 * p + 8) (22000 + 200 * p + 200) 1347 [(0, .ref sa), (1, .ref x), (2, .ref o), (3, .ref ou), (4, .int (nI (6 * p)))] [] h9 := fun hi F9 A9 n9 m9 h9 I9 => by
    refine g_iinc (n := 1350) (v := nI (6 * (p + 1))) C dL_law__1347 rfl rfl (nI_add (6 * p) 6) (by decide) ?_
    refine g_goto (t := 23) C dL_law__1350 (by decide) ?_
    exact g_lv [0, 1, 2, 3, 4] rfl (g_wide (by omega) (by omega) (ih (by omega) F9 A9 n9 m9 h9 I9))
  refine g_iload (n := 25) C dL_law__23 rfl rfl ?_
  refine g_aload_n (n := 26) C dL_law__25 rfl rfl ?_
  refine g_slen (n := 27) C S dL_law__26 rfl ?_
  refine g_bipush (n := 29) (v := 6) C dL_law__27 rfl (by decide) ?_
  refine g_isub (n := 30) C dL_law__29 rfl ?_
  have h6 : (nI L - 6).toInt = (L : Int) - 6 := pk_sub_toInt (a := L) (b := 6) (by omega) (by omega)
  refine g_icmp_gt (n := 33) (t := 1353) C dL_law__30 rfl (by decide) (fun _ => ?_) (fun zc => ?_)
  · exact kret _ _ _ _ (by omega) (by omega)
  rw [Int32.lt_iff_toInt_lt, h6, nI_i (by omega)] at zc
  have hi : 6 * p + 6 ≤ L := by omega
  refine g_aload_n (n := 34) C dL_law__33 rfl rfl ?_
  refine g_iload (n := 36) C dL_law__34 rfl rfl ?_
  refine g_sld (n := 37) C S dL_law__36 rfl (s_in0 hL hi) ?_
  refine g_bipush (n := 39) (v := 31) C dL_law__37 rfl (by decide) ?_
  refine g_iand (n := 40) C dL_law__39 rfl ?_
  refine g_case (v := 0) (fun zc40_0 => ?_) (fun zc40_0 => ?_)
  · refine g_tableIn (t := 148) C dL_law__40 (by decide) (by decide) (by rfl) (by decide) ?_
    exact sg_feed C hK hl9 S hL hi (by omega) (by omega) I (back hi)
  refine g_case (v := 1) (fun zc40_1 => ?_) (fun zc40_1 => ?_)
  · refine g_tableIn (t := 221) C dL_law__40 (by decide) (by decide) (by rfl) (by decide) ?_
    exact sg_end C hK hl9 S hL hi (by omega) (by omega) I (back hi)
  refine g_case (v := 2) (fun zc40_2 => ?_) (fun zc40_2 => ?_)
  · refine g_tableIn (t := 246) C dL_law__40 (by decide) (by decide) (by rfl) (by decide) ?_
    exact sg_step C hK hl9 S hL hi (by omega) (by omega) I (back hi)
  refine g_case (v := 3) (fun zc40_3 => ?_) (fun zc40_3 => ?_)
  · refine g_tableIn (t := 282) C dL_law__40 (by decide) (by decide) (by rfl) (by decide) ?_
    exact sg_law C hK hl9 S hL hi (by omega) (by omega) I (back hi)
  refine g_case (v := 4) (fun zc40_4 => ?_) (fun zc40_4 => ?_)
  · refine g_tableIn (t := 326) C dL_law__40 (by decide) (by decide) (by rfl) (by decide) ?_
    exact sg_agreement C hK hl9 S hL hi (by omega) (by omega) I (back hi)
  refine g_case (v := 5) (fun zc40_5 => ?_) (fun zc40_5 => ?_)
  · refine g_tableIn (t := 370) C dL_law__40 (by decide) (by decide) (by rfl) (by decide) ?_
    exact sg_fault C hK hl9 S hL hi (by omega) (by omega) I (back hi)
  refine g_case (v := 6) (fun zc40_6 => ?_) (fun zc40_6 => ?_)
  · refine g_tableIn (t := 383) C dL_law__40 (by decide) (by decide) (by rfl) (by decide) ?_
    exact sg_sink C hK hl9 S hL hi (by omega) (by omega) I (back hi)
  refine g_case (v := 7) (fun zc40_7 => ?_) (fun zc40_7 => ?_)
  · refine g_tableIn (t := 439) C dL_law__40 (by decide) (by decide) (by rfl) (by decide) ?_
    exact sg_wash C hK hl9 S hL hi (by omega) (by omega) I (back hi)
  refine g_case (v := 8) (fun zc40_8 => ?_) (fun zc40_8 => ?_)
  · refine g_tableIn (t := 514) C dL_law__40 (by decide) (by decide) (by rfl) (by decide) ?_
    exact sg_fill C hK hl9 S hL hi (by omega) (by omega) I (back hi)
  refine g_case (v := 9) (fun zc40_9 => ?_) (fun zc40_9 => ?_)
  · refine g_tableIn (t := 577) C dL_law__40 (by decide) (by decide) (by rfl) (by decide) ?_
    exact sg_days C hK hl9 S hL hi (by omega) (by omega) I (back hi)
  refine g_case (v := 10) (fun zc40_10 => ?_) (fun zc40_10 => ?_)
  · refine g_tableIn (t := 633) C dL_law__40 (by decide) (by decide) (by rfl) (by decide) ?_
    exact sg_span C hK hl9 S hL hi (by omega) (by omega) I (back hi)
  refine g_case (v := 11) (fun zc40_11 => ?_) (fun zc40_11 => ?_)
  · refine g_tableIn (t := 717) C dL_law__40 (by decide) (by decide) (by rfl) (by decide) ?_
    exact sg_best C hK hl9 S hL hi (by omega) (by omega) I (back hi)
  refine g_case (v := 12) (fun zc40_12 => ?_) (fun zc40_12 => ?_)
  · refine g_tableIn (t := 730) C dL_law__40 (by decide) (by decide) (by rfl) (by decide) ?_
    exact sg_look C hK hl9 S hL hi (by omega) (by omega) I (back hi)
  refine g_case (v := 13) (fun zc40_13 => ?_) (fun zc40_13 => ?_)
  · refine g_tableIn (t := 798) C dL_law__40 (by decide) (by decide) (by rfl) (by decide) ?_
    exact sg_stone C hK hl9 S hL hi (by omega) (by omega) I (back hi)
  refine g_case (v := 14) (fun zc40_14 => ?_) (fun zc40_14 => ?_)
  · refine g_tableIn (t := 866) C dL_law__40 (by decide) (by decide) (by rfl) (by decide) ?_
    exact sg_lay C hK hl9 S hL hi (by omega) (by omega) I (back hi)
  refine g_case (v := 15) (fun zc40_15 => ?_) (fun zc40_15 => ?_)
  · refine g_tableIn (t := 922) C dL_law__40 (by decide) (by decide) (by rfl) (by decide) ?_
    exact sg_hand C hK hl9 S hL hi (by omega) (by omega) I (back hi)
  refine g_case (v := 16) (fun zc40_16 => ?_) (fun zc40_16 => ?_)
  · refine g_tableIn (t := 1009) C dL_law__40 (by decide) (by decide) (by rfl) (by decide) ?_
    exact sg_sell C hK hl9 S hL hi (by omega) (by omega) I (back hi)
  refine g_case (v := 17) (fun zc40_17 => ?_) (fun zc40_17 => ?_)
  · refine g_tableIn (t := 1077) C dL_law__40 (by decide) (by decide) (by rfl) (by decide) ?_
    exact sg_part C hK hl9 S hL hi (by omega) (by omega) I (back hi)
  refine g_case (v := 18) (fun zc40_18 => ?_) (fun zc40_18 => ?_)
  · refine g_tableIn (t := 1145) C dL_law__40 (by decide) (by decide) (by rfl) (by decide) ?_
    exact sg_rough C hK hl9 S hL hi (by omega) (by omega) I (back hi)
  refine g_case (v := 19) (fun zc40_19 => ?_) (fun zc40_19 => ?_)
  · refine g_tableIn (t := 1193) C dL_law__40 (by decide) (by decide) (by rfl) (by decide) ?_
    exact sg_flaw C hK hl9 S hL hi (by omega) (by omega) I (back hi)
  refine g_case (v := 20) (fun zc40_20 => ?_) (fun zc40_20 => ?_)
  · refine g_tableIn (t := 1296) C dL_law__40 (by decide) (by decide) (by rfl) (by decide) ?_
    exact sg_most C hK hl9 S hL hi (by omega) (by omega) I (back hi)
  refine g_case (v := 21) (fun zc40_21 => ?_) (fun zc40_21 => ?_)
  · refine g_tableIn (t := 1309) C dL_law__40 (by decide) (by decide) (by rfl) (by decide) ?_
    exact sg_cuts C hK hl9 S hL hi (by omega) (by omega) I (back hi)
  refine g_case (v := 22) (fun zc40_22 => ?_) (fun zc40_22 => ?_)
  · refine g_tableIn (t := 1322) C dL_law__40 (by decide) (by decide) (by rfl) (by decide) ?_
    exact sg_count C hK hl9 S hL hi (by omega) (by omega) I (back hi)
  refine g_tableOut (t := 1347) C dL_law__40 (g_tout23 zc40_0 zc40_1 zc40_2 zc40_3 zc40_4 zc40_5 zc40_6 zc40_7 zc40_8 zc40_9 zc40_10 zc40_11 zc40_12 zc40_13 zc40_14 zc40_15 zc40_16 zc40_17 zc40_18 zc40_19 zc40_20 zc40_21 zc40_22) (by decide) ?_
  exact g_wide (by omega) (by omega) (back hi F A n m h I)
theorem dL_law__0 : decode cL_law_ 0 = .ok (.new 8, 3) := by decide +kernel
theorem dL_law__3 : decode cL_law_ 3 = .ok (.dup, 1) := by decide +kernel
theorem dL_law__4 : decode cL_law_ 4 = .ok (.invokespecial 77, 3) := by decide +kernel
theorem dL_law__7 : decode cL_law_ 7 = .ok (.astore_n 1, 1) := by decide +kernel
theorem dL_law__8 : decode cL_law_ 8 = .ok (.new 78, 3) := by decide +kernel
theorem dL_law__11 : decode cL_law_ 11 = .ok (.dup, 1) := by decide +kernel
theorem dL_law__12 : decode cL_law_ 12 = .ok (.invokespecial 80, 3) := by decide +kernel
theorem dL_law__15 : decode cL_law_ 15 = .ok (.astore_n 2, 1) := by decide +kernel
theorem dL_law__16 : decode cL_law_ 16 = .ok (.iconst 1, 1) := by decide +kernel
theorem dL_law__17 : decode cL_law_ 17 = .ok (.newarray .long, 2) := by decide +kernel
theorem dL_law__19 : decode cL_law_ 19 = .ok (.astore_n 3, 1) := by decide +kernel
theorem dL_law__20 : decode cL_law_ 20 = .ok (.iconst 0, 1) := by decide +kernel
theorem dL_law__21 : decode cL_law_ 21 = .ok (.istore 4, 2) := by decide +kernel
set_option maxHeartbeats 4000000 in
set_option maxRecDepth 20000 in
theorem law_start {K : Cx} {E : Ev} {nm : String} {Q : State → Prop} {sa L : Nat} {xs : Nat → Int32} (C : GX K E cL_law_ 7 RL (some .boolean) nm) (hK : kR K = room_1) (hl9 : (kl K).stackTraces = false) (S : SX K E sa L xs) (hL : L ≤ 3072) (kret : ∀ (cs ss : Nat) (lv : List (Nat × Value)) (h : AH), cs ≤ 601024 → ss ≤ 7293034 → G K E 7 Q cs ss 1353 lv [] h) : G K E 7 Q 0 0 0 [(0, .ref sa)] [] (fun _ => none) := by
  refine g_new (n := 3) (ci := 10) (T := TX10) (fs := [.null, .null, .null, .null, .int 0]) (ty0 := tyX10) C dL_law__0 rfl rfl inX10 w_66 w_67 w_34 tyX10_ok (by decide) (by rw [hK]; show _ ≤ 601024; omega) (by rw [hK]; show _ ≤ 7293034; omega) ?_
  intro x hqx hex
  refine g_dup (n := 4) C dL_law__3 rfl rfl ?_
  rw [← LW_one]
  refine g_callI (n := 7) (As := []) C dL_law__4 rfl mw_X10_init w_68 rfl rfl (lroom hK (by omega) (by omega) ⟨by decide, by decide, by decide, by decide, Nat.le_of_ble_eq_true rfl⟩) (cw_init (fun t b k al le gr lw mk al2 hd9 ag u g fl cl wo fe hA9 hfr => ?_))
  refine g_astore_n (n := 8) C dL_law__7 rfl (by decide) ?_
  refine g_new (n := 11) (ci := 11) (T := TX11) (fs := mdf) (ty0 := tyX11) C dL_law__8 rfl rfl inX11 w_1094 w_1095 w_46 tyX11_ok (by decide) (by rw [hK]; show _ ≤ 601024; omega) (by rw [hK]; show _ ≤ 7293034; omega) ?_
  intro o hqo heo
  refine g_dup (n := 12) C dL_law__11 rfl rfl ?_
  rw [show ∀ h9 : AH, hset h9 o (.inr (11, mdf)) = bh o (.inr (11, mdf)) [] h9 from fun h9 => rfl]
  refine g_callI (n := 15) (As := []) C dL_law__12 rfl mw_X11_init w_1096 rfl rfl (lroom hK (by omega) (by omega) ⟨by decide, by decide, by decide, by decide, Nat.le_of_ble_eq_true rfl⟩) (ct_init0 (fun adm hI hfa => ?_))
  refine g_astore_n (n := 16) C dL_law__15 rfl (by decide) ?_
  refine g_iconst (n := 17) (v := 1) C dL_law__16 rfl (by decide) ?_
  refine g_newa (n := 19) C 4 (N := 1) (a0 := (1, .inr (.inl (fun _ => 0)))) dL_law__17 rfl rfl rfl (fun _ h => h) w_1398 (fun _ => rfl) (by decide) (by decide) (by decide) (by rw [hK]; show _ ≤ 601024; omega) (by rw [hK]; show _ ≤ 7293034; omega) ?_
  intro ou hqu heu
  refine g_astore_n (n := 20) C dL_law__19 rfl (by decide) ?_
  refine g_iconst (n := 21) (v := 0) C dL_law__20 rfl (by decide) ?_
  refine g_istore (n := 23) C dL_law__21 rfl (by decide) ?_
  exact g_lv [0, 1, 2, 3, 4] rfl (g_wide (by omega) (by omega) (law_loop C hK hl9 S hL kret 0 (Nat.zero_le _) _ _ _ _ _ (w_start hA9 hI hfa hqo hqu)))
