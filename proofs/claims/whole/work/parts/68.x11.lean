theorem dX10_init_0 : decode cX10_init 0 = .ok (.aload_n 0, 1) := by decide +kernel
theorem dX10_init_1 : decode cX10_init 1 = .ok (.invokespecial 1, 3) := by decide +kernel
theorem dX10_init_4 : decode cX10_init 4 = .ok (.aload_n 0, 1) := by decide +kernel
theorem dX10_init_5 : decode cX10_init 5 = .ok (.new 7, 3) := by decide +kernel
theorem dX10_init_8 : decode cX10_init 8 = .ok (.dup, 1) := by decide +kernel
theorem dX10_init_9 : decode cX10_init 9 = .ok (.invokespecial 9, 3) := by decide +kernel
theorem dX10_init_12 : decode cX10_init 12 = .ok (.putfield 10, 3) := by decide +kernel
theorem dX10_init_15 : decode cX10_init 15 = .ok (.aload_n 0, 1) := by decide +kernel
theorem dX10_init_16 : decode cX10_init 16 = .ok (.new 16, 3) := by decide +kernel
theorem dX10_init_19 : decode cX10_init 19 = .ok (.dup, 1) := by decide +kernel
theorem dX10_init_20 : decode cX10_init 20 = .ok (.invokespecial 18, 3) := by decide +kernel
theorem dX10_init_23 : decode cX10_init 23 = .ok (.putfield 19, 3) := by decide +kernel
theorem dX10_init_26 : decode cX10_init 26 = .ok (.aload_n 0, 1) := by decide +kernel
theorem dX10_init_27 : decode cX10_init 27 = .ok (.new 23, 3) := by decide +kernel
theorem dX10_init_30 : decode cX10_init 30 = .ok (.dup, 1) := by decide +kernel
theorem dX10_init_31 : decode cX10_init 31 = .ok (.invokespecial 25, 3) := by decide +kernel
theorem dX10_init_34 : decode cX10_init 34 = .ok (.putfield 26, 3) := by decide +kernel
theorem dX10_init_37 : decode cX10_init 37 = .ok (.aload_n 0, 1) := by decide +kernel
theorem dX10_init_38 : decode cX10_init 38 = .ok (.new 30, 3) := by decide +kernel
theorem dX10_init_41 : decode cX10_init 41 = .ok (.dup, 1) := by decide +kernel
theorem dX10_init_42 : decode cX10_init 42 = .ok (.invokespecial 32, 3) := by decide +kernel
theorem dX10_init_45 : decode cX10_init 45 = .ok (.putfield 33, 3) := by decide +kernel
theorem dX10_init_48 : decode cX10_init 48 = .ok (.aload_n 0, 1) := by decide +kernel
theorem dX10_init_49 : decode cX10_init 49 = .ok (.iconst (-1), 1) := by decide +kernel
theorem dX10_init_50 : decode cX10_init 50 = .ok (.putfield 37, 3) := by decide +kernel
theorem dX10_init_53 : decode cX10_init 53 = .ok (.return_, 1) := by decide +kernel
set_option maxHeartbeats 4000000 in
set_option maxRecDepth 20000 in
theorem cw_init {l : Launch} {E : Ev} {P : Value → AH → Prop}  {x : Nat} {h : AH} (hp : ∀ t b k al le gr lw mk al2 hd9 ag u g fl cl wo fe, lA [(x, dE), (t, dE), (b, dE), (k, dE), (al, dE), (le, dE), (gr, dE), (lw, dE), (mk, dE), (al2, dE), (hd9, dE), (ag, dE), (u, dE), (g, dE), (fl, dE), (cl, dE), (wo, dE), (fe, dE)] → (∀ q ∈ [t, b, k, al, le, gr, lw, mk, al2, hd9, ag, u, g, fl, cl, wo, fe], h q = none) → P .null (LW [(x, (.inr (10, [.ref t, .ref k, .ref mk, .ref g, .int (-1)]))), (t, .inr (9, [.ref b, .int 0])), (b, .inl (E.2.2 0, 400, .inl (fun _ => 0))), (k, (.inr (2, [.ref al, .ref le, .ref gr, .ref lw, .int 20, .int 0]))), (al, (.inr (0, [.int 0, .ref (E.2.2 10), .int 0]))), (le, .inl (E.2.2 1, 96, .inl (fun _ => 0))), (gr, .inl (E.2.2 1, 96, .inl (flf (fun _ => 0) 100 96))), (lw, .inr (3, [.int 0, .int 1000, .int 0])), (mk, (.inr (4, [.ref al2, .ref hd9, .ref ag, .int 0, .int 0]))), (al2, (.inr (0, [.int 0, .ref (E.2.2 10), .int 0]))), (hd9, .inl (E.2.2 1, 6, .inl (fun _ => 0))), (ag, .inr (1, [.ref u, .int 0, .int 0])), (u, .inl (E.2.2 1, 6, .inl (fun _ => 0))), (g, (.inr (7, [.ref fl, .ref cl, .ref wo, .ref fe, .int 1, .int 1, .int 0]))), (fl, .inl (E.2.2 2, 80, .inl (fun _ => 0))), (cl, .inl (E.2.2 2, 1980, .inl (fun _ => 0))), (wo, .inl (E.2.2 1, 1980, .inl (fun _ => 0))), (fe, .inl (E.2.2 1, 1980, .inl (fun _ => 0)))] h)) : Mt l E yX10_init cX10_init 1 none 5 100 17 6656 [.ref x] (LW [(x, (.inr (10, [.null, .null, .null, .null, .int 0])))] h) P := by
  refine Mt.of (by decide) (Nat.le_of_ble_eq_true rfl) ?_
  intro K hK hR C
  have A0 : lA [(x, ((.inr (10, [.null, .null, .null, .null, .int 0])) : va_E))] := lA_one _ _
  refine g_aload_n (n := 1) C dX10_init_0 rfl rfl ?_
  refine g_objInit (n := 4) C dX10_init_1 rfl w_71 w_72 w_73 (roomF hR rfl) (roomL hR rfl) ?_
  refine g_aload_n (n := 5) C dX10_init_4 rfl rfl ?_
  refine g_new (n := 8) (ci := 9) (T := TX9) (fs := [.null, .int 0]) (ty0 := tyX9) C dX10_init_5 rfl rfl inX9 w_74 w_75 w_35 tyX9_ok (by decide) (roomC hR rfl) (roomS hR rfl) ?_
  intro t hqt het
  have znt := LW_none hqt
  rw [← LW_one]
  refine g_dup (n := 9) C dX10_init_8 rfl rfl ?_
  refine g_callIN (n := 12) (As := []) C dX10_init_9 rfl mw_X9_init t_76 rfl rfl (room hR rfl) (cc_tinit (fun b hnb hfb => ?_))
  have zmb := LW_none hfb
  rw [LW_app (by exact (zfmc znt.1 (zfm1 zmb.1)))]
  dsimp only [List.cons_append, List.nil_append]
  have Bt : lA [(x, dE), (t, dE)] := lA_snoc (L := [(x, dE)]) dE (by exact A0) znt.1
  have Bb : lA [(x, dE), (t, dE), (b, dE)] := lA_snoc (L := [(x, dE), (t, dE)]) dE Bt (nmem_app (by exact zmb.1) hnb)
  refine l_putF (n := 15) (T := TX10) (ty0 := tyX10) C 0 0 dX10_init_12 rfl Bb rfl rfl (by decide) inX10 w_234 rfl tyX10_ok nmX10 rfl rfl rfl rfl rfl rfl (by show 0 < 5; decide) ?_
  dsimp only [List.set]
  refine g_aload_n (n := 16) C dX10_init_15 rfl rfl ?_
  refine g_new (n := 19) (ci := 2) (T := TX2) (fs := [.null, .null, .null, .null, .int 0, .int 0]) (ty0 := tyX2) C dX10_init_16 rfl rfl inX2 w_88 w_89 w_36 tyX2_ok (by decide) (roomC hR rfl) (roomS hR rfl) ?_
  intro k hqk hek
  have znk := LW_none hqk
  rw [← LW_one]
  refine g_dup (n := 20) C dX10_init_19 rfl rfl ?_
  refine g_callI (n := 23) (As := []) C dX10_init_20 rfl mw_X2_init w_90 rfl rfl (room hR rfl) (cc_groundInit (fun al le gr lw hAg hfal hfle hfgr hflw => ?_))
  have zmal := LW_none hfal
  have zmle := LW_none hfle
  have zmgr := LW_none hfgr
  have zmlw := LW_none hflw
  rw [LW_app (by exact (zfmc znk.1 (zfmc zmal.1 (zfmc zmle.1 (zfmc zmgr.1 (zfm1 zmlw.1))))))]
  dsimp only [List.cons_append, List.nil_append]
  have Bk : lA [(x, dE), (t, dE), (b, dE), (k, dE)] := lA_snoc (L := [(x, dE), (t, dE), (b, dE)]) dE (by exact Bb) znk.1
  have Bal : lA [(x, dE), (t, dE), (b, dE), (k, dE), (al, dE)] := lA_snoc (L := [(x, dE), (t, dE), (b, dE), (k, dE)]) dE Bk (nmem_app (by exact zmal.1) (show al ∉ [k] from fun z => by unfold lA at hAg; simp at hAg z; omega))
  have Ble : lA [(x, dE), (t, dE), (b, dE), (k, dE), (al, dE), (le, dE)] := lA_snoc (L := [(x, dE), (t, dE), (b, dE), (k, dE), (al, dE)]) dE Bal (nmem_app (by exact zmle.1) (show le ∉ [k, al] from fun z => by unfold lA at hAg; simp at hAg z; omega))
  have Bgr : lA [(x, dE), (t, dE), (b, dE), (k, dE), (al, dE), (le, dE), (gr, dE)] := lA_snoc (L := [(x, dE), (t, dE), (b, dE), (k, dE), (al, dE), (le, dE)]) dE Ble (nmem_app (by exact zmgr.1) (show gr ∉ [k, al, le] from fun z => by unfold lA at hAg; simp at hAg z; omega))
  have Blw : lA [(x, dE), (t, dE), (b, dE), (k, dE), (al, dE), (le, dE), (gr, dE), (lw, dE)] := lA_snoc (L := [(x, dE), (t, dE), (b, dE), (k, dE), (al, dE), (le, dE), (gr, dE)]) dE Bgr (nmem_app (by exact zmlw.1) (show lw ∉ [k, al, le, gr] from fun z => by unfold lA at hAg; simp at hAg z; omega))
  refine l_putF (n := 26) (T := TX10) (ty0 := tyX10) C 0 1 dX10_init_23 rfl Blw rfl rfl (by decide) inX10 w_235 rfl tyX10_ok nmX10 rfl rfl rfl rfl rfl rfl (by show 1 < 5; decide) ?_
  dsimp only [List.set]
  refine g_aload_n (n := 27) C dX10_init_26 rfl rfl ?_
  refine g_new (n := 30) (ci := 4) (T := TX4) (fs := [.null, .null, .null, .int 0, .int 0]) (ty0 := tyX4) C dX10_init_27 rfl rfl inX4 w_165 w_166 w_43 tyX4_ok (by decide) (roomC hR rfl) (roomS hR rfl) ?_
  intro mk hqmk hemk
  have znmk := LW_none hqmk
  rw [← LW_one]
  refine g_dup (n := 31) C dX10_init_30 rfl rfl ?_
  refine g_callIN (n := 34) (As := []) C dX10_init_31 rfl mw_X4_init t_167 rfl rfl (room hR rfl) (cc_marketInit (fun al2 hd9 ag u hAm hfal2 hfhd9 hfag hfu => ?_))
  have zmal2 := LW_none hfal2
  have zmhd9 := LW_none hfhd9
  have zmag := LW_none hfag
  have zmu := LW_none hfu
  rw [LW_app (by exact (zfmc znmk.1 (zfmc zmal2.1 (zfmc zmhd9.1 (zfmc zmag.1 (zfm1 zmu.1))))))]
  dsimp only [List.cons_append, List.nil_append]
  have Bmk : lA [(x, dE), (t, dE), (b, dE), (k, dE), (al, dE), (le, dE), (gr, dE), (lw, dE), (mk, dE)] := lA_snoc (L := [(x, dE), (t, dE), (b, dE), (k, dE), (al, dE), (le, dE), (gr, dE), (lw, dE)]) dE (by exact Blw) znmk.1
  have Bal2 : lA [(x, dE), (t, dE), (b, dE), (k, dE), (al, dE), (le, dE), (gr, dE), (lw, dE), (mk, dE), (al2, dE)] := lA_snoc (L := [(x, dE), (t, dE), (b, dE), (k, dE), (al, dE), (le, dE), (gr, dE), (lw, dE), (mk, dE)]) dE Bmk (nmem_app (by exact zmal2.1) (show al2 ∉ [mk] from fun z => by unfold lA at hAm; simp at hAm z; omega))
  have Bhd9 : lA [(x, dE), (t, dE), (b, dE), (k, dE), (al, dE), (le, dE), (gr, dE), (lw, dE), (mk, dE), (al2, dE), (hd9, dE)] := lA_snoc (L := [(x, dE), (t, dE), (b, dE), (k, dE), (al, dE), (le, dE), (gr, dE), (lw, dE), (mk, dE), (al2, dE)]) dE Bal2 (nmem_app (by exact zmhd9.1) (show hd9 ∉ [mk, al2] from fun z => by unfold lA at hAm; simp at hAm z; omega))
  have Bag : lA [(x, dE), (t, dE), (b, dE), (k, dE), (al, dE), (le, dE), (gr, dE), (lw, dE), (mk, dE), (al2, dE), (hd9, dE), (ag, dE)] := lA_snoc (L := [(x, dE), (t, dE), (b, dE), (k, dE), (al, dE), (le, dE), (gr, dE), (lw, dE), (mk, dE), (al2, dE), (hd9, dE)]) dE Bhd9 (nmem_app (by exact zmag.1) (show ag ∉ [mk, al2, hd9] from fun z => by unfold lA at hAm; simp at hAm z; omega))
  have Bu : lA [(x, dE), (t, dE), (b, dE), (k, dE), (al, dE), (le, dE), (gr, dE), (lw, dE), (mk, dE), (al2, dE), (hd9, dE), (ag, dE), (u, dE)] := lA_snoc (L := [(x, dE), (t, dE), (b, dE), (k, dE), (al, dE), (le, dE), (gr, dE), (lw, dE), (mk, dE), (al2, dE), (hd9, dE), (ag, dE)]) dE Bag (nmem_app (by exact zmu.1) (show u ∉ [mk, al2, hd9, ag] from fun z => by unfold lA at hAm; simp at hAm z; omega))
  refine l_putF (n := 37) (T := TX10) (ty0 := tyX10) C 0 2 dX10_init_34 rfl Bu rfl rfl (by decide) inX10 w_236 rfl tyX10_ok nmX10 rfl rfl rfl rfl rfl rfl (by show 2 < 5; decide) ?_
  dsimp only [List.set]
  refine g_aload_n (n := 38) C dX10_init_37 rfl rfl ?_
  refine g_new (n := 41) (ci := 7) (T := TX7) (fs := [.null, .null, .null, .null, .int 0, .int 0, .int 0]) (ty0 := tyX7) C dX10_init_38 rfl rfl inX7 w_205 w_206 w_45 tyX7_ok (by decide) (roomC hR rfl) (roomS hR rfl) ?_
  intro g hqg heg
  have zng := LW_none hqg
  rw [← LW_one]
  refine g_dup (n := 42) C dX10_init_41 rfl rfl ?_
  refine g_callIN (n := 45) (As := []) C dX10_init_42 rfl mw_X7_init t_207 rfl rfl (room hR rfl) (cc_roughInit (fun fl cl wo fe hnfl hncl hnwo hnfe hffl hfcl hfwo hffe => ?_))
  have zmfl := LW_none hffl
  have zmcl := LW_none hfcl
  have zmwo := LW_none hfwo
  have zmfe := LW_none hffe
  rw [LW_app (by exact (zfmc zng.1 (zfmc zmfl.1 (zfmc zmcl.1 (zfmc zmwo.1 (zfm1 zmfe.1))))))]
  dsimp only [List.cons_append, List.nil_append]
  have Bg : lA [(x, dE), (t, dE), (b, dE), (k, dE), (al, dE), (le, dE), (gr, dE), (lw, dE), (mk, dE), (al2, dE), (hd9, dE), (ag, dE), (u, dE), (g, dE)] := lA_snoc (L := [(x, dE), (t, dE), (b, dE), (k, dE), (al, dE), (le, dE), (gr, dE), (lw, dE), (mk, dE), (al2, dE), (hd9, dE), (ag, dE), (u, dE)]) dE (by exact Bu) zng.1
  have Bfl : lA [(x, dE), (t, dE), (b, dE), (k, dE), (al, dE), (le, dE), (gr, dE), (lw, dE), (mk, dE), (al2, dE), (hd9, dE), (ag, dE), (u, dE), (g, dE), (fl, dE)] := lA_snoc (L := [(x, dE), (t, dE), (b, dE), (k, dE), (al, dE), (le, dE), (gr, dE), (lw, dE), (mk, dE), (al2, dE), (hd9, dE), (ag, dE), (u, dE), (g, dE)]) dE Bg (nmem_app (by exact zmfl.1) hnfl)
  have Bcl : lA [(x, dE), (t, dE), (b, dE), (k, dE), (al, dE), (le, dE), (gr, dE), (lw, dE), (mk, dE), (al2, dE), (hd9, dE), (ag, dE), (u, dE), (g, dE), (fl, dE), (cl, dE)] := lA_snoc (L := [(x, dE), (t, dE), (b, dE), (k, dE), (al, dE), (le, dE), (gr, dE), (lw, dE), (mk, dE), (al2, dE), (hd9, dE), (ag, dE), (u, dE), (g, dE), (fl, dE)]) dE Bfl (nmem_app (by exact zmcl.1) hncl)
  have Bwo : lA [(x, dE), (t, dE), (b, dE), (k, dE), (al, dE), (le, dE), (gr, dE), (lw, dE), (mk, dE), (al2, dE), (hd9, dE), (ag, dE), (u, dE), (g, dE), (fl, dE), (cl, dE), (wo, dE)] := lA_snoc (L := [(x, dE), (t, dE), (b, dE), (k, dE), (al, dE), (le, dE), (gr, dE), (lw, dE), (mk, dE), (al2, dE), (hd9, dE), (ag, dE), (u, dE), (g, dE), (fl, dE), (cl, dE)]) dE Bcl (nmem_app (by exact zmwo.1) hnwo)
  have Bfe : lA [(x, dE), (t, dE), (b, dE), (k, dE), (al, dE), (le, dE), (gr, dE), (lw, dE), (mk, dE), (al2, dE), (hd9, dE), (ag, dE), (u, dE), (g, dE), (fl, dE), (cl, dE), (wo, dE), (fe, dE)] := lA_snoc (L := [(x, dE), (t, dE), (b, dE), (k, dE), (al, dE), (le, dE), (gr, dE), (lw, dE), (mk, dE), (al2, dE), (hd9, dE), (ag, dE), (u, dE), (g, dE), (fl, dE), (cl, dE), (wo, dE)]) dE Bwo (nmem_app (by exact zmfe.1) hnfe)
  refine l_putF (n := 48) (T := TX10) (ty0 := tyX10) C 0 3 dX10_init_45 rfl Bfe rfl rfl (by decide) inX10 w_237 rfl tyX10_ok nmX10 rfl rfl rfl rfl rfl rfl (by show 3 < 5; decide) ?_
  dsimp only [List.set]
  refine g_aload_n (n := 49) C dX10_init_48 rfl rfl ?_
  refine g_iconst (n := 50) (v := (-1)) C dX10_init_49 rfl (by decide) ?_
  refine l_put (n := 53) (T := TX10) (ty0 := tyX10) C 0 4 dX10_init_50 rfl Bfe rfl rfl (by decide) inX10 w_238 rfl tyX10_ok nmX10 rfl rfl rfl rfl (by show 4 < 5; decide) ?_
  dsimp only [List.set]
  refine g_vret C dX10_init_53 (by decide) (by decide) ?_
  refine hp t b k al le gr lw mk al2 hd9 ag u g fl cl wo fe Bfe ?_
  simp only [List.forall_mem_cons, List.not_mem_nil, false_implies, implies_true, and_true]
  exact ⟨znt.2, zmb.2, znk.2, zmal.2, zmle.2, zmgr.2, zmlw.2, znmk.2, zmal2.2, zmhd9.2, zmag.2, zmu.2, zng.2, zmfl.2, zmcl.2, zmwo.2, zmfe.2⟩
