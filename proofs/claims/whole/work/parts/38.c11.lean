theorem dX4_costs_0 : decode cX4_costs 0 = .ok (.aload_n 0, 1) := by decide +kernel
theorem dX4_costs_1 : decode cX4_costs 1 = .ok (.getfield 29, 3) := by decide +kernel
theorem dX4_costs_4 : decode cX4_costs 4 = .ok (.ireturn, 1) := by decide +kernel
set_option maxHeartbeats 400000 in
set_option maxRecDepth 20000 in
theorem cc_mcosts {l : Launch} {E : Ev} {P : Value → AH → Prop}  {k al hd9 ag : Nat} {co so : Int32} {h : AH} (hk : h k = some (.inr (4, [.ref al, .ref hd9, .ref ag, .int co, .int so]))) (hp : P (.int co) h) : Mt l E yX4_costs cX4_costs 1 (some .int) 0 0 0 0 [.ref k] (h) P := by
  refine Mt.of (by decide) (Nat.le_of_ble_eq_true rfl) ?_
  intro K hK hR C
  refine g_aload_n (n := 1) C dX4_costs_0 rfl rfl ?_
  refine g_get (n := 4) (T := TX4) C 3 dX4_costs_1 rfl hk rfl rfl (by decide) inX4 w_192 rfl ?_
  refine g_iret C dX4_costs_4 (by decide) (by decide) ?_
  exact hp
theorem dX4_sold_0 : decode cX4_sold 0 = .ok (.aload_n 0, 1) := by decide +kernel
theorem dX4_sold_1 : decode cX4_sold 1 = .ok (.getfield 33, 3) := by decide +kernel
theorem dX4_sold_4 : decode cX4_sold 4 = .ok (.ireturn, 1) := by decide +kernel
set_option maxHeartbeats 400000 in
set_option maxRecDepth 20000 in
theorem cc_msold {l : Launch} {E : Ev} {P : Value → AH → Prop}  {k al hd9 ag : Nat} {co so : Int32} {h : AH} (hk : h k = some (.inr (4, [.ref al, .ref hd9, .ref ag, .int co, .int so]))) (hp : P (.int so) h) : Mt l E yX4_sold cX4_sold 1 (some .int) 0 0 0 0 [.ref k] (h) P := by
  refine Mt.of (by decide) (Nat.le_of_ble_eq_true rfl) ?_
  intro K hK hR C
  refine g_aload_n (n := 1) C dX4_sold_0 rfl rfl ?_
  refine g_get (n := 4) (T := TX4) C 4 dX4_sold_1 rfl hk rfl rfl (by decide) inX4 w_193 rfl ?_
  refine g_iret C dX4_sold_4 (by decide) (by decide) ?_
  exact hp
theorem dX4_stones_0 : decode cX4_stones 0 = .ok (.aload_n 0, 1) := by decide +kernel
theorem dX4_stones_1 : decode cX4_stones 1 = .ok (.getfield 12, 3) := by decide +kernel
theorem dX4_stones_4 : decode cX4_stones 4 = .ok (.invokevirtual 36, 3) := by decide +kernel
theorem dX4_stones_7 : decode cX4_stones 7 = .ok (.ireturn, 1) := by decide +kernel
set_option maxHeartbeats 400000 in
set_option maxRecDepth 20000 in
theorem cc_mstones {l : Launch} {E : Ev} {P : Value → AH → Prop}  {k al hd9 ag : Nat} {co so : Int32} {h : AH} (hk : h k = some (.inr (4, [.ref al, .ref hd9, .ref ag, .int co, .int so]))) {d n : Nat} {mc : Int32} (he : h al = some (.inr (0, [.int mc, .ref d, .int (nI n)]))) (hp : P (.int (nI n)) h) : Mt l E yX4_stones cX4_stones 1 (some .int) 1 20 0 0 [.ref k] (h) P := by
  refine Mt.of (by decide) (Nat.le_of_ble_eq_true rfl) ?_
  intro K hK hR C
  refine g_aload_n (n := 1) C dX4_stones_0 rfl rfl ?_
  refine g_get (n := 4) (T := TX4) C 0 dX4_stones_1 rfl hk rfl rfl (by decide) inX4 w_189 rfl ?_
  refine g_callV (n := 7) (As := []) C dX4_stones_4 rfl mw_Jx4a65c_size_8abf5 w_384 (g_recv C he rfl) rfl rfl (room hR rfl) (ct_alSize he ?_)
  refine g_iret C dX4_stones_7 (by decide) (by decide) ?_
  exact hp
theorem dX4_stoneAt_0 : decode cX4_stoneAt 0 = .ok (.aload_n 0, 1) := by decide +kernel
theorem dX4_stoneAt_1 : decode cX4_stoneAt 1 = .ok (.getfield 12, 3) := by decide +kernel
theorem dX4_stoneAt_4 : decode cX4_stoneAt 4 = .ok (.iload_n 1, 1) := by decide +kernel
theorem dX4_stoneAt_5 : decode cX4_stoneAt 5 = .ok (.invokevirtual 40, 3) := by decide +kernel
theorem dX4_stoneAt_8 : decode cX4_stoneAt 8 = .ok (.checkcast 44, 3) := by decide +kernel
theorem dX4_stoneAt_11 : decode cX4_stoneAt 11 = .ok (.areturn, 1) := by decide +kernel
set_option maxHeartbeats 400000 in
set_option maxRecDepth 20000 in
theorem cc_mstoneAt {l : Launch} {E : Ev} {P : Value → AH → Prop}  {k al hd9 ag : Nat} {co so : Int32} {h : AH} (hk : h k = some (.inr (4, [.ref al, .ref hd9, .ref ag, .int co, .int so]))) {d n : Nat} {mc : Int32} (he : h al = some (.inr (0, [.int mc, .ref d, .int (nI n)]))) {N j b ci : Nat} {fs : List Value} {f : Nat → Option Nat} (hd : h d = some (eQ E N f)) (hj : j < n) (hnN : n ≤ N) (hN : N ≤ 100) (hf : f j = some b) (hb9 : h b = some (.inr (8, fs))) (hp : P (.ref b) h) : Mt l E yX4_stoneAt cX4_stoneAt 2 (some (.object "GemPits$Stone")) 3 64 0 0 [.ref k, .int (nI j)] (h) P := by
  refine Mt.of (by decide) (Nat.le_of_ble_eq_true rfl) ?_
  intro K hK hR C
  refine g_aload_n (n := 1) C dX4_stoneAt_0 rfl rfl ?_
  refine g_get (n := 4) (T := TX4) C 0 dX4_stoneAt_1 rfl hk rfl rfl (by decide) inX4 w_189 rfl ?_
  refine g_iload_n (n := 5) C dX4_stoneAt_4 rfl rfl ?_
  refine g_callV (n := 8) (As := [.int _]) C dX4_stoneAt_5 rfl mw_Jx4a65c_get_915e3 w_1017 (g_recv C he rfl) rfl rfl (room hR rfl) (ct_alGet he hd hj hnN hN hf ?_)
  refine g_cast (n := 11) C dX4_stoneAt_8 rfl hb9 rfl w_951 ?_
  refine g_aret C dX4_stoneAt_11 (by first | exact Or.inl ⟨_, rfl⟩ | exact Or.inr ⟨_, rfl⟩) (by decide) (by decide) ?_
  exact hp
theorem dX4_hadBy_0 : decode cX4_hadBy 0 = .ok (.aload_n 0, 1) := by decide +kernel
theorem dX4_hadBy_1 : decode cX4_hadBy 1 = .ok (.getfield 18, 3) := by decide +kernel
theorem dX4_hadBy_4 : decode cX4_hadBy 4 = .ok (.iload_n 1, 1) := by decide +kernel
theorem dX4_hadBy_5 : decode cX4_hadBy 5 = .ok (.iaload, 1) := by decide +kernel
theorem dX4_hadBy_6 : decode cX4_hadBy 6 = .ok (.ireturn, 1) := by decide +kernel
set_option maxHeartbeats 400000 in
set_option maxRecDepth 20000 in
theorem cc_mhad {l : Launch} {E : Ev} {P : Value → AH → Prop}  {k al hd9 ag : Nat} {co so : Int32} {h : AH} (hk : h k = some (.inr (4, [.ref al, .ref hd9, .ref ag, .int co, .int so]))) {H : Nat → Int32} (hh : h hd9 = some (.inl (E.2.2 1, 6, .inl H))) {j : Nat} (hj : j < 6) (hp : P (.int (H j)) h) : Mt l E yX4_hadBy cX4_hadBy 2 (some .int) 0 0 0 0 [.ref k, .int (nI j)] (h) P := by
  refine Mt.of (by decide) (Nat.le_of_ble_eq_true rfl) ?_
  intro K hK hR C
  refine g_aload_n (n := 1) C dX4_hadBy_0 rfl rfl ?_
  refine g_get (n := 4) (T := TX4) C 1 dX4_hadBy_1 rfl hk rfl rfl (by decide) inX4 w_190 rfl ?_
  refine g_iload_n (n := 5) C dX4_hadBy_4 rfl rfl ?_
  refine f_iald (n := 6) (j) C dX4_hadBy_5 rfl hh rfl hj (by decide) (rfl) ?_
  refine g_iret C dX4_hadBy_6 (by decide) (by decide) ?_
  exact hp
theorem dX4_setAgreement_0 : decode cX4_setAgreement 0 = .ok (.aload_n 0, 1) := by decide +kernel
theorem dX4_setAgreement_1 : decode cX4_setAgreement 1 = .ok (.aload_n 1, 1) := by decide +kernel
theorem dX4_setAgreement_2 : decode cX4_setAgreement 2 = .ok (.putfield 25, 3) := by decide +kernel
theorem dX4_setAgreement_5 : decode cX4_setAgreement 5 = .ok (.return_, 1) := by decide +kernel
set_option maxHeartbeats 400000 in
set_option maxRecDepth 20000 in
theorem cc_msetA {l : Launch} {E : Ev} {P : Value → AH → Prop}  {k al hd9 ag : Nat} {co so : Int32} {h : AH} (hk : h k = some (.inr (4, [.ref al, .ref hd9, .ref ag, .int co, .int so]))) {x : Nat} (hp : P .null (hset h k (.inr (4, [.ref al, .ref hd9, .ref x, .int co, .int so])))) : Mt l E yX4_setAgreement cX4_setAgreement 2 none 0 0 0 0 [.ref k, .ref x] (h) P := by
  refine Mt.of (by decide) (Nat.le_of_ble_eq_true rfl) ?_
  intro K hK hR C
  rw [LW_is hk]
  have A0 : lA [(k, ((.inr (4, [.ref al, .ref hd9, .ref ag, .int co, .int so])) : va_E))] := lA_one _ _
  refine g_aload_n (n := 1) C dX4_setAgreement_0 rfl rfl ?_
  refine g_aload_n (n := 2) C dX4_setAgreement_1 rfl rfl ?_
  refine l_put (n := 5) (T := TX4) (ty0 := tyX4) C 0 2 dX4_setAgreement_2 rfl A0 rfl rfl (by decide) inX4 w_191 rfl tyX4_ok nmX4 rfl rfl rfl rfl (by show 2 < 5; decide) ?_
  dsimp only [List.set]
  refine g_vret C dX4_setAgreement_5 (by decide) (by decide) ?_
  rw [LW_one]
  exact hp
theorem dX4_layOut_0 : decode cX4_layOut 0 = .ok (.aload_n 0, 1) := by decide +kernel
theorem dX4_layOut_1 : decode cX4_layOut 1 = .ok (.dup, 1) := by decide +kernel
theorem dX4_layOut_2 : decode cX4_layOut 2 = .ok (.getfield 29, 3) := by decide +kernel
theorem dX4_layOut_5 : decode cX4_layOut 5 = .ok (.iload_n 1, 1) := by decide +kernel
theorem dX4_layOut_6 : decode cX4_layOut 6 = .ok (.iadd, 1) := by decide +kernel
theorem dX4_layOut_7 : decode cX4_layOut 7 = .ok (.putfield 29, 3) := by decide +kernel
theorem dX4_layOut_10 : decode cX4_layOut 10 = .ok (.return_, 1) := by decide +kernel
set_option maxHeartbeats 400000 in
set_option maxRecDepth 20000 in
theorem cc_mlay {l : Launch} {E : Ev} {P : Value → AH → Prop}  {k al hd9 ag : Nat} {co so : Int32} {h : AH} (hk : h k = some (.inr (4, [.ref al, .ref hd9, .ref ag, .int co, .int so]))) {x : Int32} (hp : P .null (hset h k (.inr (4, [.ref al, .ref hd9, .ref ag, .int (co + x), .int so])))) : Mt l E yX4_layOut cX4_layOut 2 none 0 0 0 0 [.ref k, .int x] (h) P := by
  refine Mt.of (by decide) (Nat.le_of_ble_eq_true rfl) ?_
  intro K hK hR C
  rw [LW_is hk]
  have A0 : lA [(k, ((.inr (4, [.ref al, .ref hd9, .ref ag, .int co, .int so])) : va_E))] := lA_one _ _
  refine g_aload_n (n := 1) C dX4_layOut_0 rfl rfl ?_
  refine g_dup (n := 2) C dX4_layOut_1 rfl rfl ?_
  refine l_get (n := 5) (T := TX4) C 0 3 dX4_layOut_2 rfl A0 rfl rfl rfl (by decide) inX4 w_192 rfl ?_
  refine g_iload_n (n := 6) C dX4_layOut_5 rfl rfl ?_
  refine g_iadd (n := 7) C dX4_layOut_6 rfl ?_
  refine l_put (n := 10) (T := TX4) (ty0 := tyX4) C 0 3 dX4_layOut_7 rfl A0 rfl rfl (by decide) inX4 w_192 rfl tyX4_ok nmX4 rfl rfl rfl rfl (by show 3 < 5; decide) ?_
  dsimp only [List.set]
  refine g_vret C dX4_layOut_10 (by decide) (by decide) ?_
  rw [LW_one]
  exact hp
theorem dX2_pits_0 : decode cX2_pits 0 = .ok (.aload_n 0, 1) := by decide +kernel
theorem dX2_pits_1 : decode cX2_pits 1 = .ok (.getfield 12, 3) := by decide +kernel
theorem dX2_pits_4 : decode cX2_pits 4 = .ok (.invokevirtual 45, 3) := by decide +kernel
theorem dX2_pits_7 : decode cX2_pits 7 = .ok (.ireturn, 1) := by decide +kernel
set_option maxHeartbeats 400000 in
set_option maxRecDepth 20000 in
theorem cc_gpits {l : Launch} {E : Ev} {P : Value → AH → Prop}  {k al le gr lw : Nat} {sp to : Int32} {h : AH} (hk : h k = some (.inr (2, [.ref al, .ref le, .ref gr, .ref lw, .int sp, .int to]))) {d n : Nat} {mc : Int32} (he : h al = some (.inr (0, [.int mc, .ref d, .int (nI n)]))) (hp : P (.int (nI n)) h) : Mt l E yX2_pits cX2_pits 1 (some .int) 1 20 0 0 [.ref k] (h) P := by
  refine Mt.of (by decide) (Nat.le_of_ble_eq_true rfl) ?_
  intro K hK hR C
  refine g_aload_n (n := 1) C dX2_pits_0 rfl rfl ?_
  refine g_get (n := 4) (T := TX2) C 0 dX2_pits_1 rfl hk rfl rfl (by decide) inX2 w_146 rfl ?_
  refine g_callV (n := 7) (As := []) C dX2_pits_4 rfl mw_Jx4a65c_size_8abf5 w_294 (g_recv C he rfl) rfl rfl (room hR rfl) (ct_alSize he ?_)
  refine g_iret C dX2_pits_7 (by decide) (by decide) ?_
  exact hp
theorem dX2_pitAt_0 : decode cX2_pitAt 0 = .ok (.aload_n 0, 1) := by decide +kernel
theorem dX2_pitAt_1 : decode cX2_pitAt 1 = .ok (.getfield 12, 3) := by decide +kernel
theorem dX2_pitAt_4 : decode cX2_pitAt 4 = .ok (.iload_n 1, 1) := by decide +kernel
theorem dX2_pitAt_5 : decode cX2_pitAt 5 = .ok (.invokevirtual 49, 3) := by decide +kernel
theorem dX2_pitAt_8 : decode cX2_pitAt 8 = .ok (.checkcast 53, 3) := by decide +kernel
theorem dX2_pitAt_11 : decode cX2_pitAt 11 = .ok (.areturn, 1) := by decide +kernel
set_option maxHeartbeats 400000 in
set_option maxRecDepth 20000 in
theorem cc_gpitAt {l : Launch} {E : Ev} {P : Value → AH → Prop}  {k al le gr lw : Nat} {sp to : Int32} {h : AH} (hk : h k = some (.inr (2, [.ref al, .ref le, .ref gr, .ref lw, .int sp, .int to]))) {d n : Nat} {mc : Int32} (he : h al = some (.inr (0, [.int mc, .ref d, .int (nI n)]))) {N j b ci : Nat} {fs : List Value} {f : Nat → Option Nat} (hd : h d = some (eQ E N f)) (hj : j < n) (hnN : n ≤ N) (hN : N ≤ 100) (hf : f j = some b) (hb9 : h b = some (.inr (5, fs))) (hp : P (.ref b) h) : Mt l E yX2_pitAt cX2_pitAt 2 (some (.object "GemPits$Pit")) 3 64 0 0 [.ref k, .int (nI j)] (h) P := by
  refine Mt.of (by decide) (Nat.le_of_ble_eq_true rfl) ?_
  intro K hK hR C
  refine g_aload_n (n := 1) C dX2_pitAt_0 rfl rfl ?_
  refine g_get (n := 4) (T := TX2) C 0 dX2_pitAt_1 rfl hk rfl rfl (by decide) inX2 w_146 rfl ?_
  refine g_iload_n (n := 5) C dX2_pitAt_4 rfl rfl ?_
  refine g_callV (n := 8) (As := [.int _]) C dX2_pitAt_5 rfl mw_Jx4a65c_get_915e3 w_298 (g_recv C he rfl) rfl rfl (room hR rfl) (ct_alGet he hd hj hnN hN hf ?_)
  refine g_cast (n := 11) C dX2_pitAt_8 rfl hb9 rfl w_312 ?_
  refine g_aret C dX2_pitAt_11 (by first | exact Or.inl ⟨_, rfl⟩ | exact Or.inr ⟨_, rfl⟩) (by decide) (by decide) ?_
  exact hp
theorem dX2_lawNow_0 : decode cX2_lawNow 0 = .ok (.aload_n 0, 1) := by decide +kernel
theorem dX2_lawNow_1 : decode cX2_lawNow 1 = .ok (.getfield 28, 3) := by decide +kernel
theorem dX2_lawNow_4 : decode cX2_lawNow 4 = .ok (.areturn, 1) := by decide +kernel
set_option maxHeartbeats 400000 in
set_option maxRecDepth 20000 in
theorem cc_glaw {l : Launch} {E : Ev} {P : Value → AH → Prop}  {k al le gr lw : Nat} {sp to : Int32} {h : AH} (hk : h k = some (.inr (2, [.ref al, .ref le, .ref gr, .ref lw, .int sp, .int to]))) (hp : P (.ref lw) h) : Mt l E yX2_lawNow cX2_lawNow 1 (some (.object "GemPits$Law")) 0 0 0 0 [.ref k] (h) P := by
  refine Mt.of (by decide) (Nat.le_of_ble_eq_true rfl) ?_
  intro K hK hR C
  refine g_aload_n (n := 1) C dX2_lawNow_0 rfl rfl ?_
  refine g_get (n := 4) (T := TX2) C 3 dX2_lawNow_1 rfl hk rfl rfl (by decide) inX2 w_149 rfl ?_
  refine g_aret C dX2_lawNow_4 (by first | exact Or.inl ⟨_, rfl⟩ | exact Or.inr ⟨_, rfl⟩) (by decide) (by decide) ?_
  exact hp
theorem dX2_today_0 : decode cX2_today 0 = .ok (.aload_n 0, 1) := by decide +kernel
theorem dX2_today_1 : decode cX2_today 1 = .ok (.getfield 36, 3) := by decide +kernel
theorem dX2_today_4 : decode cX2_today 4 = .ok (.ireturn, 1) := by decide +kernel
set_option maxHeartbeats 400000 in
set_option maxRecDepth 20000 in
theorem cc_gtoday {l : Launch} {E : Ev} {P : Value → AH → Prop}  {k al le gr lw : Nat} {sp to : Int32} {h : AH} (hk : h k = some (.inr (2, [.ref al, .ref le, .ref gr, .ref lw, .int sp, .int to]))) (hp : P (.int to) h) : Mt l E yX2_today cX2_today 1 (some .int) 0 0 0 0 [.ref k] (h) P := by
  refine Mt.of (by decide) (Nat.le_of_ble_eq_true rfl) ?_
  intro K hK hR C
  refine g_aload_n (n := 1) C dX2_today_0 rfl rfl ?_
  refine g_get (n := 4) (T := TX2) C 5 dX2_today_1 rfl hk rfl rfl (by decide) inX2 w_151 rfl ?_
  refine g_iret C dX2_today_4 (by decide) (by decide) ?_
  exact hp
theorem dX2_setLaw_0 : decode cX2_setLaw 0 = .ok (.aload_n 0, 1) := by decide +kernel
theorem dX2_setLaw_1 : decode cX2_setLaw 1 = .ok (.aload_n 1, 1) := by decide +kernel
theorem dX2_setLaw_2 : decode cX2_setLaw 2 = .ok (.putfield 28, 3) := by decide +kernel
theorem dX2_setLaw_5 : decode cX2_setLaw 5 = .ok (.return_, 1) := by decide +kernel
set_option maxHeartbeats 400000 in
set_option maxRecDepth 20000 in
theorem cc_gsetLaw {l : Launch} {E : Ev} {P : Value → AH → Prop}  {k al le gr lw : Nat} {sp to : Int32} {h : AH} (hk : h k = some (.inr (2, [.ref al, .ref le, .ref gr, .ref lw, .int sp, .int to]))) {x : Nat} (hp : P .null (hset h k (.inr (2, [.ref al, .ref le, .ref gr, .ref x, .int sp, .int to])))) : Mt l E yX2_setLaw cX2_setLaw 2 none 0 0 0 0 [.ref k, .ref x] (h) P := by
  refine Mt.of (by decide) (Nat.le_of_ble_eq_true rfl) ?_
  intro K hK hR C
  rw [LW_is hk]
  have A0 : lA [(k, ((.inr (2, [.ref al, .ref le, .ref gr, .ref lw, .int sp, .int to])) : va_E))] := lA_one _ _
  refine g_aload_n (n := 1) C dX2_setLaw_0 rfl rfl ?_
  refine g_aload_n (n := 2) C dX2_setLaw_1 rfl rfl ?_
  refine l_put (n := 5) (T := TX2) (ty0 := tyX2) C 0 3 dX2_setLaw_2 rfl A0 rfl rfl (by decide) inX2 w_149 rfl tyX2_ok nmX2 rfl rfl rfl rfl (by show 3 < 6; decide) ?_
  dsimp only [List.set]
  refine g_vret C dX2_setLaw_5 (by decide) (by decide) ?_
  rw [LW_one]
  exact hp
theorem dX2_passDays_0 : decode cX2_passDays 0 = .ok (.aload_n 0, 1) := by decide +kernel
theorem dX2_passDays_1 : decode cX2_passDays 1 = .ok (.aload_n 0, 1) := by decide +kernel
theorem dX2_passDays_2 : decode cX2_passDays 2 = .ok (.getfield 36, 3) := by decide +kernel
theorem dX2_passDays_5 : decode cX2_passDays 5 = .ok (.iload_n 1, 1) := by decide +kernel
theorem dX2_passDays_6 : decode cX2_passDays 6 = .ok (.iadd, 1) := by decide +kernel
theorem dX2_passDays_7 : decode cX2_passDays 7 = .ok (.sipush 3000, 3) := by decide +kernel
theorem dX2_passDays_10 : decode cX2_passDays 10 = .ok (.invokestatic 59, 3) := by decide +kernel
theorem dX2_passDays_13 : decode cX2_passDays 13 = .ok (.putfield 36, 3) := by decide +kernel
theorem dX2_passDays_16 : decode cX2_passDays 16 = .ok (.return_, 1) := by decide +kernel
set_option maxHeartbeats 400000 in
set_option maxRecDepth 20000 in
theorem cc_gpass {l : Launch} {E : Ev} {P : Value → AH → Prop}  {k al le gr lw : Nat} {sp to : Int32} {h : AH} (hk : h k = some (.inr (2, [.ref al, .ref le, .ref gr, .ref lw, .int sp, .int to]))) {x : Int32} (hp : P .null (hset h k (.inr (2, [.ref al, .ref le, .ref gr, .ref lw, .int sp, .int (imin (to + x) 3000)])))) : Mt l E yX2_passDays cX2_passDays 2 none 1 21 0 0 [.ref k, .int x] (h) P := by
  refine Mt.of (by decide) (Nat.le_of_ble_eq_true rfl) ?_
  intro K hK hR C
  rw [LW_is hk]
  have A0 : lA [(k, ((.inr (2, [.ref al, .ref le, .ref gr, .ref lw, .int sp, .int to])) : va_E))] := lA_one _ _
  refine g_aload_n (n := 1) C dX2_passDays_0 rfl rfl ?_
  refine g_aload_n (n := 2) C dX2_passDays_1 rfl rfl ?_
  refine l_get (n := 5) (T := TX2) C 0 5 dX2_passDays_2 rfl A0 rfl rfl rfl (by decide) inX2 w_151 rfl ?_
  refine g_iload_n (n := 6) C dX2_passDays_5 rfl rfl ?_
  refine g_iadd (n := 7) C dX2_passDays_6 rfl ?_
  refine g_sipush (n := 10) (v := 3000) C dX2_passDays_7 rfl (by decide) ?_
  refine g_min (n := 13) C dX2_passDays_10 rfl mwM_min w_499 (roomM hR rfl) ?_
  refine l_put (n := 16) (T := TX2) (ty0 := tyX2) C 0 5 dX2_passDays_13 rfl A0 rfl rfl (by decide) inX2 w_151 rfl tyX2_ok nmX2 rfl rfl rfl rfl (by show 5 < 6; decide) ?_
  dsimp only [List.set]
  refine g_vret C dX2_passDays_16 (by decide) (by decide) ?_
  rw [LW_one]
  exact hp
theorem dX2_leastAt_0 : decode cX2_leastAt 0 = .ok (.aload_n 0, 1) := by decide +kernel
theorem dX2_leastAt_1 : decode cX2_leastAt 1 = .ok (.getfield 18, 3) := by decide +kernel
theorem dX2_leastAt_4 : decode cX2_leastAt 4 = .ok (.iload_n 1, 1) := by decide +kernel
theorem dX2_leastAt_5 : decode cX2_leastAt 5 = .ok (.iaload, 1) := by decide +kernel
theorem dX2_leastAt_6 : decode cX2_leastAt 6 = .ok (.ireturn, 1) := by decide +kernel
set_option maxHeartbeats 400000 in
set_option maxRecDepth 20000 in
theorem cc_gleast {l : Launch} {E : Ev} {P : Value → AH → Prop}  {k al le gr lw : Nat} {sp to : Int32} {h : AH} (hk : h k = some (.inr (2, [.ref al, .ref le, .ref gr, .ref lw, .int sp, .int to]))) {Lf Gf : Nat → Int32} (hl : h le = some (.inl (E.2.2 1, 96, .inl Lf))) (hg : h gr = some (.inl (E.2.2 1, 96, .inl Gf))) {j : Nat} (hj : j < 96) (hp : P (.int (Lf j)) h) : Mt l E yX2_leastAt cX2_leastAt 2 (some .int) 0 0 0 0 [.ref k, .int (nI j)] (h) P := by
  refine Mt.of (by decide) (Nat.le_of_ble_eq_true rfl) ?_
  intro K hK hR C
  refine g_aload_n (n := 1) C dX2_leastAt_0 rfl rfl ?_
  refine g_get (n := 4) (T := TX2) C 1 dX2_leastAt_1 rfl hk rfl rfl (by decide) inX2 w_147 rfl ?_
  refine g_iload_n (n := 5) C dX2_leastAt_4 rfl rfl ?_
  refine f_iald (n := 6) (j) C dX2_leastAt_5 rfl hl rfl hj (by decide) (rfl) ?_
  refine g_iret C dX2_leastAt_6 (by decide) (by decide) ?_
  exact hp
theorem dX2_greatestAt_0 : decode cX2_greatestAt 0 = .ok (.aload_n 0, 1) := by decide +kernel
theorem dX2_greatestAt_1 : decode cX2_greatestAt 1 = .ok (.getfield 22, 3) := by decide +kernel
theorem dX2_greatestAt_4 : decode cX2_greatestAt 4 = .ok (.iload_n 1, 1) := by decide +kernel
theorem dX2_greatestAt_5 : decode cX2_greatestAt 5 = .ok (.iaload, 1) := by decide +kernel
theorem dX2_greatestAt_6 : decode cX2_greatestAt 6 = .ok (.ireturn, 1) := by decide +kernel
set_option maxHeartbeats 400000 in
set_option maxRecDepth 20000 in
theorem cc_ggreat {l : Launch} {E : Ev} {P : Value → AH → Prop}  {k al le gr lw : Nat} {sp to : Int32} {h : AH} (hk : h k = some (.inr (2, [.ref al, .ref le, .ref gr, .ref lw, .int sp, .int to]))) {Lf Gf : Nat → Int32} (hl : h le = some (.inl (E.2.2 1, 96, .inl Lf))) (hg : h gr = some (.inl (E.2.2 1, 96, .inl Gf))) {j : Nat} (hj : j < 96) (hp : P (.int (Gf j)) h) : Mt l E yX2_greatestAt cX2_greatestAt 2 (some .int) 0 0 0 0 [.ref k, .int (nI j)] (h) P := by
  refine Mt.of (by decide) (Nat.le_of_ble_eq_true rfl) ?_
  intro K hK hR C
  refine g_aload_n (n := 1) C dX2_greatestAt_0 rfl rfl ?_
  refine g_get (n := 4) (T := TX2) C 2 dX2_greatestAt_1 rfl hk rfl rfl (by decide) inX2 w_148 rfl ?_
  refine g_iload_n (n := 5) C dX2_greatestAt_4 rfl rfl ?_
  refine f_iald (n := 6) (j) C dX2_greatestAt_5 rfl hg rfl hj (by decide) (rfl) ?_
  refine g_iret C dX2_greatestAt_6 (by decide) (by decide) ?_
  exact hp
theorem dX2_hasSpan_0 : decode cX2_hasSpan 0 = .ok (.aload_n 0, 1) := by decide +kernel
theorem dX2_hasSpan_1 : decode cX2_hasSpan 1 = .ok (.getfield 18, 3) := by decide +kernel
theorem dX2_hasSpan_4 : decode cX2_hasSpan 4 = .ok (.iload_n 1, 1) := by decide +kernel
theorem dX2_hasSpan_5 : decode cX2_hasSpan 5 = .ok (.iaload, 1) := by decide +kernel
theorem dX2_hasSpan_6 : decode cX2_hasSpan 6 = .ok (.aload_n 0, 1) := by decide +kernel
theorem dX2_hasSpan_7 : decode cX2_hasSpan 7 = .ok (.getfield 22, 3) := by decide +kernel
theorem dX2_hasSpan_10 : decode cX2_hasSpan 10 = .ok (.iload_n 1, 1) := by decide +kernel
theorem dX2_hasSpan_11 : decode cX2_hasSpan 11 = .ok (.iaload, 1) := by decide +kernel
theorem dX2_hasSpan_12 : decode cX2_hasSpan 12 = .ok (.if_icmp .gt 7, 3) := by decide +kernel
theorem dX2_hasSpan_15 : decode cX2_hasSpan 15 = .ok (.iconst 1, 1) := by decide +kernel
theorem dX2_hasSpan_16 : decode cX2_hasSpan 16 = .ok (.goto 4, 3) := by decide +kernel
theorem dX2_hasSpan_19 : decode cX2_hasSpan 19 = .ok (.iconst 0, 1) := by decide +kernel
theorem dX2_hasSpan_20 : decode cX2_hasSpan 20 = .ok (.ireturn, 1) := by decide +kernel
set_option maxHeartbeats 400000 in
set_option maxRecDepth 20000 in
theorem cc_gspan {l : Launch} {E : Ev} {P : Value → AH → Prop}  {k al le gr lw : Nat} {sp to : Int32} {h : AH} (hk : h k = some (.inr (2, [.ref al, .ref le, .ref gr, .ref lw, .int sp, .int to]))) {Lf Gf : Nat → Int32} (hl : h le = some (.inl (E.2.2 1, 96, .inl Lf))) (hg : h gr = some (.inl (E.2.2 1, 96, .inl Gf))) {j : Nat} (hj : j < 96) (k1 : Lf j ≤ Gf j → P (.int 1) h) (k0 : ¬ Lf j ≤ Gf j → P (.int 0) h) : Mt l E yX2_hasSpan cX2_hasSpan 2 (some .boolean) 0 0 0 0 [.ref k, .int (nI j)] (h) P := by
  refine Mt.of (by decide) (Nat.le_of_ble_eq_true rfl) ?_
  intro K hK hR C
  refine g_aload_n (n := 1) C dX2_hasSpan_0 rfl rfl ?_
  refine g_get (n := 4) (T := TX2) C 1 dX2_hasSpan_1 rfl hk rfl rfl (by decide) inX2 w_147 rfl ?_
  refine g_iload_n (n := 5) C dX2_hasSpan_4 rfl rfl ?_
  refine f_iald (n := 6) (j) C dX2_hasSpan_5 rfl hl rfl hj (by decide) (rfl) ?_
  refine g_aload_n (n := 7) C dX2_hasSpan_6 rfl rfl ?_
  refine g_get (n := 10) (T := TX2) C 2 dX2_hasSpan_7 rfl hk rfl rfl (by decide) inX2 w_148 rfl ?_
  refine g_iload_n (n := 11) C dX2_hasSpan_10 rfl rfl ?_
  refine f_iald (n := 12) (j) C dX2_hasSpan_11 rfl hg rfl hj (by decide) (rfl) ?_
  refine g_icmp_gt (n := 15) (t := 19) C dX2_hasSpan_12 rfl (by decide) (fun zc12 => ?_) (fun zc12 => ?_)
  · --t12
    refine g_iconst (n := 20) (v := 0) C dX2_hasSpan_19 rfl (by decide) ?_
    refine g_zret C dX2_hasSpan_20 (by decide) (by decide) (by rfl) ?_
    exact k0 (Int32.not_le.mpr zc12)
  · --f12
    refine g_iconst (n := 16) (v := 1) C dX2_hasSpan_15 rfl (by decide) ?_
    refine g_goto (t := 20) C dX2_hasSpan_16 (by decide) ?_
    refine g_zret C dX2_hasSpan_20 (by decide) (by decide) (by rfl) ?_
    exact k1 (Int32.not_lt.mp zc12)
theorem dX2_stepsApart_0 : decode cX2_stepsApart 0 = .ok (.iload_n 0, 1) := by decide +kernel
theorem dX2_stepsApart_1 : decode cX2_stepsApart 1 = .ok (.bipush 12, 2) := by decide +kernel
theorem dX2_stepsApart_3 : decode cX2_stepsApart 3 = .ok (.irem, 1) := by decide +kernel
theorem dX2_stepsApart_4 : decode cX2_stepsApart 4 = .ok (.iload_n 1, 1) := by decide +kernel
theorem dX2_stepsApart_5 : decode cX2_stepsApart 5 = .ok (.bipush 12, 2) := by decide +kernel
theorem dX2_stepsApart_7 : decode cX2_stepsApart 7 = .ok (.irem, 1) := by decide +kernel
theorem dX2_stepsApart_8 : decode cX2_stepsApart 8 = .ok (.isub, 1) := by decide +kernel
theorem dX2_stepsApart_9 : decode cX2_stepsApart 9 = .ok (.invokestatic 105, 3) := by decide +kernel
theorem dX2_stepsApart_12 : decode cX2_stepsApart 12 = .ok (.istore_n 2, 1) := by decide +kernel
theorem dX2_stepsApart_13 : decode cX2_stepsApart 13 = .ok (.iload_n 0, 1) := by decide +kernel
theorem dX2_stepsApart_14 : decode cX2_stepsApart 14 = .ok (.bipush 12, 2) := by decide +kernel
theorem dX2_stepsApart_16 : decode cX2_stepsApart 16 = .ok (.idiv, 1) := by decide +kernel
theorem dX2_stepsApart_17 : decode cX2_stepsApart 17 = .ok (.iload_n 1, 1) := by decide +kernel
theorem dX2_stepsApart_18 : decode cX2_stepsApart 18 = .ok (.bipush 12, 2) := by decide +kernel
theorem dX2_stepsApart_20 : decode cX2_stepsApart 20 = .ok (.idiv, 1) := by decide +kernel
theorem dX2_stepsApart_21 : decode cX2_stepsApart 21 = .ok (.isub, 1) := by decide +kernel
theorem dX2_stepsApart_22 : decode cX2_stepsApart 22 = .ok (.invokestatic 105, 3) := by decide +kernel
theorem dX2_stepsApart_25 : decode cX2_stepsApart 25 = .ok (.istore_n 3, 1) := by decide +kernel
theorem dX2_stepsApart_26 : decode cX2_stepsApart 26 = .ok (.iload_n 2, 1) := by decide +kernel
theorem dX2_stepsApart_27 : decode cX2_stepsApart 27 = .ok (.iload_n 3, 1) := by decide +kernel
theorem dX2_stepsApart_28 : decode cX2_stepsApart 28 = .ok (.invokestatic 102, 3) := by decide +kernel
theorem dX2_stepsApart_31 : decode cX2_stepsApart 31 = .ok (.ireturn, 1) := by decide +kernel
set_option maxHeartbeats 400000 in
set_option maxRecDepth 20000 in
theorem cc_apart {l : Launch} {E : Ev} {P : Value → AH → Prop}  {a b : Int32} {h : AH} (hp : P (.int (rapart a b)) h) : Mt l E yX2_stepsApart cX2_stepsApart 4 (some .int) 1 21 0 0 [.int a, .int b] (h) P := by
  refine Mt.of (by decide) (Nat.le_of_ble_eq_true rfl) ?_
  intro K hK hR C
  refine g_iload_n (n := 1) C dX2_stepsApart_0 rfl rfl ?_
  refine g_bipush (n := 3) (v := 12) C dX2_stepsApart_1 rfl (by decide) ?_
  refine g_irem (n := 4) C dX2_stepsApart_3 rfl (by decide) ?_
  refine g_iload_n (n := 5) C dX2_stepsApart_4 rfl rfl ?_
  refine g_bipush (n := 7) (v := 12) C dX2_stepsApart_5 rfl (by decide) ?_
  refine g_irem (n := 8) C dX2_stepsApart_7 rfl (by decide) ?_
  refine g_isub (n := 9) C dX2_stepsApart_8 rfl ?_
  refine g_abs (n := 12) C dX2_stepsApart_9 rfl mwM_abs w_320 (roomM hR rfl) ?_
  refine g_istore_n (n := 13) C dX2_stepsApart_12 rfl (by decide) ?_
  refine g_iload_n (n := 14) C dX2_stepsApart_13 rfl rfl ?_
  refine g_bipush (n := 16) (v := 12) C dX2_stepsApart_14 rfl (by decide) ?_
  refine g_idiv (n := 17) C dX2_stepsApart_16 rfl (by decide) ?_
  refine g_iload_n (n := 18) C dX2_stepsApart_17 rfl rfl ?_
  refine g_bipush (n := 20) (v := 12) C dX2_stepsApart_18 rfl (by decide) ?_
  refine g_idiv (n := 21) C dX2_stepsApart_20 rfl (by decide) ?_
  refine g_isub (n := 22) C dX2_stepsApart_21 rfl ?_
  refine g_abs (n := 25) C dX2_stepsApart_22 rfl mwM_abs w_320 (roomM hR rfl) ?_
  refine g_istore_n (n := 26) C dX2_stepsApart_25 rfl (by decide) ?_
  refine g_iload_n (n := 27) C dX2_stepsApart_26 rfl rfl ?_
  refine g_iload_n (n := 28) C dX2_stepsApart_27 rfl rfl ?_
  refine g_max (n := 31) C dX2_stepsApart_28 rfl mwM_max w_323 (roomM hR rfl) ?_
  refine g_iret C dX2_stepsApart_31 (by decide) (by decide) ?_
  exact hp
