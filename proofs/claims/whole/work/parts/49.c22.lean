theorem al_ne {E : Ev} {h : AH} {L : List (Nat × va_E)} {d n N e : Nat} {f : Nat → Option Nat} (hl : alF E h d n N f) (hze : (e = d ∧ 1 ≤ N) ∨ LW L h e = none) {k ci : Nat} {vs : List Value} (hk : h k = some (.inr (ci, vs))) (hkL : k ∉ L.map Prod.fst) : k ≠ e := by
  intro z
  subst z
  rcases hze with ⟨rfl, h1⟩ | h0
  · rcases hl.1 with ⟨h2, -⟩ | ⟨-, h2⟩
    · omega
    · rw [h2] at hk; cases hk
  · rw [LW_nb hkL, hk] at h0; cases h0
theorem nm1 {h : AH} {q k : Nat} {e : va_E} (hq : h q = none) (hk : h k = some e) : k ∉ [q] := fun z => by rw [List.mem_singleton.mp z, hq] at hk; cases hk
theorem nmc {h : AH} {q k : Nat} {L : List Nat} {e : va_E} (hq : h q = none) (hk : h k = some e) (hL : k ∉ L) : k ∉ q :: L := fun z => (List.mem_cons.mp z).elim (fun y => by rw [y, hq] at hk; cases hk) hL
theorem LW_is3 {a b d : Nat} {x y z : va_E} {h : AH} (hx : h a = some x) (hy : h b = some y) (hz : h d = some z) : h = LW [(a, x), (b, y), (d, z)] h := (LW_id _ (fun q hq => by
  rcases List.mem_cons.mp hq with e | hq
  · rw [e]; exact hx
  rcases List.mem_cons.mp hq with e | hq
  · rw [e]; exact hy
  · rw [List.mem_singleton.mp hq]; exact hz)).symm
theorem lA_three {a b d : Nat} (h1 : a ∉ [b, d]) (h2 : b ≠ d) : lA [(a, dE), (b, dE), (d, dE)] := List.pairwise_cons.mpr ⟨fun z hz e => h1 (by rw [show a = z from e]; exact hz), lA_two h2⟩
theorem dX4_addStone_0 : decode cX4_addStone 0 = .ok (.aload_n 0, 1) := by decide +kernel
theorem dX4_addStone_1 : decode cX4_addStone 1 = .ok (.getfield 12, 3) := by decide +kernel
theorem dX4_addStone_4 : decode cX4_addStone 4 = .ok (.new 44, 3) := by decide +kernel
theorem dX4_addStone_7 : decode cX4_addStone 7 = .ok (.dup, 1) := by decide +kernel
theorem dX4_addStone_8 : decode cX4_addStone 8 = .ok (.iload_n 1, 1) := by decide +kernel
theorem dX4_addStone_9 : decode cX4_addStone 9 = .ok (.iload_n 2, 1) := by decide +kernel
theorem dX4_addStone_10 : decode cX4_addStone 10 = .ok (.invokespecial 46, 3) := by decide +kernel
theorem dX4_addStone_13 : decode cX4_addStone 13 = .ok (.invokevirtual 49, 3) := by decide +kernel
theorem dX4_addStone_16 : decode cX4_addStone 16 = .ok (.pop, 1) := by decide +kernel
theorem dX4_addStone_17 : decode cX4_addStone 17 = .ok (.aload_n 0, 1) := by decide +kernel
theorem dX4_addStone_18 : decode cX4_addStone 18 = .ok (.getfield 12, 3) := by decide +kernel
theorem dX4_addStone_21 : decode cX4_addStone 21 = .ok (.invokevirtual 36, 3) := by decide +kernel
theorem dX4_addStone_24 : decode cX4_addStone 24 = .ok (.iconst 1, 1) := by decide +kernel
theorem dX4_addStone_25 : decode cX4_addStone 25 = .ok (.isub, 1) := by decide +kernel
theorem dX4_addStone_26 : decode cX4_addStone 26 = .ok (.ireturn, 1) := by decide +kernel
set_option maxHeartbeats 1000000 in
set_option maxRecDepth 20000 in
theorem cc_addStone {l : Launch} {E : Ev} {P : Value → AH → Prop}  {k al hd9 ag : Nat} {co so : Int32} {h : AH} (hk : h k = some (.inr (4, [.ref al, .ref hd9, .ref ag, .int co, .int so]))) {d n : Nat} {mc : Int32} (he : h al = some (.inr (0, [.int mc, .ref d, .int (nI n)]))) {N : Nat} {f : Nat → Option Nat} (hl : alF E h d n N f) (hn9 : n ≤ 59) {pi ba : Int32} (hp : ∀ q hs sh e M g, hs ∉ [q] → sh ∉ [q, hs] → h q = none → h hs = none → h sh = none → ((e = d ∧ 1 ≤ N) ∨ (LW [(q, (.inr (8, [.int pi, .int ba, .ref hs, .ref sh, .int (-1), .int (-1)]))), (hs, .inl (E.2.2 1, 6, .inl (flf (fun _ => 0) (-1) 6))), (sh, .inl (E.2.2 1, 6, .inl (fun _ => 0)))] h) e = none) → e ≠ al → n + 1 ≤ M → M ≤ 100 → (∀ i, i < n → g i = f i) → P (.int (nI n)) (hset (hset (LW [(q, (.inr (8, [.int pi, .int ba, .ref hs, .ref sh, .int (-1), .int (-1)]))), (hs, .inl (E.2.2 1, 6, .inl (flf (fun _ => 0) (-1) 6))), (sh, .inl (E.2.2 1, 6, .inl (fun _ => 0)))] h) e (eQ E M (va_up g n (some q)))) al (.inr (0, [.int (mc + 1), .ref e, .int (nI (n + 1))])))) : Mt l E yX4_addStone cX4_addStone 3 (some .int) 7 152 4 118 [.ref k, .int pi, .int ba] (h) P := by
  refine Mt.of (by decide) (Nat.le_of_ble_eq_true rfl) ?_
  intro K hK hR C
  refine g_aload_n (n := 1) C dX4_addStone_0 rfl rfl ?_
  refine g_get (n := 4) (T := TX4) C 0 dX4_addStone_1 rfl hk rfl rfl (by decide) inX4 w_189 rfl ?_
  refine g_new (n := 7) (ci := 8) (T := TX8) (fs := [.int 0, .int 0, .null, .null, .int 0, .int 0]) (ty0 := tyX8) C dX4_addStone_4 rfl rfl inX8 w_951 w_952 w_65 tyX8_ok (by decide) (roomC hR rfl) (roomS hR rfl) ?_
  intro q hqq heq
  rw [← LW_one]
  have hfq : h q = none := hqq
  refine g_dup (n := 8) C dX4_addStone_7 rfl rfl ?_
  refine g_iload_n (n := 9) C dX4_addStone_8 rfl rfl ?_
  refine g_iload_n (n := 10) C dX4_addStone_9 rfl rfl ?_
  refine g_callI (n := 13) (As := [.int _, .int _]) C dX4_addStone_10 rfl mw_X8_init w_953 rfl rfl (room hR rfl) (cc_stoneInit (fun hs sh hms hmh hfhs hfsh => ?_))
  have hkL : k ∉ [q, hs, sh] := nmc hfq hk (nmc hfhs hk (nm1 hfsh hk))
  have haL : al ∉ [q, hs, sh] := nmc hfq he (nmc hfhs he (nm1 hfsh he))
  have hnL : ∀ z ∈ [q, hs, sh], h z = none := zfmc hfq (zfmc hfhs (zfm1 hfsh))
  refine g_callV (n := 16) (As := [.ref _]) C dX4_addStone_13 rfl mw_Jx4a65c_add_9ea2d w_986 (g_recv C (lnb he (by exact haL)) rfl) rfl rfl (room hR rfl) (ct_add (lnb he (by exact haL)) (isO8 (LW_at (by exact (lA_snoc (L := [(q, dE), (hs, dE)]) dE (lA_snoc (L := [(q, dE)]) dE (lA_one q dE) hms) hmh)) 0 rfl)) hn9 (alF_up hnL hl) (fun e M g hze hea hz1 hz2 hz3 => ?_))
  have hk3 : (hset (hset (LW [(q, (.inr (8, [.int pi, .int ba, .ref hs, .ref sh, .int (-1), .int (-1)]))), (hs, .inl (E.2.2 1, 6, .inl (flf (fun _ => 0) (-1) 6))), (sh, .inl (E.2.2 1, 6, .inl (fun _ => 0)))] h) e (eQ E M (va_up g n (some q)))) al (.inr (0, [.int (mc + 1), .ref e, .int (nI (n + 1))]))) k = some (.inr (4, [.ref al, .ref hd9, .ref ag, .int co, .int so])) := (hset_ne _ _ (fun z => by rw [z, he] at hk; cases hk)).trans ((hset_ne _ _ (al_ne hl hze hk (by exact hkL))).trans (lnb hk (by exact hkL)))
  have he3 : (hset (hset (LW [(q, (.inr (8, [.int pi, .int ba, .ref hs, .ref sh, .int (-1), .int (-1)]))), (hs, .inl (E.2.2 1, 6, .inl (flf (fun _ => 0) (-1) 6))), (sh, .inl (E.2.2 1, 6, .inl (fun _ => 0)))] h) e (eQ E M (va_up g n (some q)))) al (.inr (0, [.int (mc + 1), .ref e, .int (nI (n + 1))]))) al = some (.inr (0, [.int (mc + 1), .ref e, .int (nI (n + 1))])) := hset_same _ _ _
  refine g_pop (n := 17) C dX4_addStone_16 rfl rfl ?_
  refine g_aload_n (n := 18) C dX4_addStone_17 rfl rfl ?_
  refine g_get (n := 21) (T := TX4) C 0 dX4_addStone_18 rfl hk3 rfl rfl (by decide) inX4 w_189 rfl ?_
  refine g_callV (n := 24) (As := []) C dX4_addStone_21 rfl mw_Jx4a65c_size_8abf5 w_384 (g_recv C he3 rfl) rfl rfl (room hR rfl) (ct_alSize he3 ?_)
  refine g_iconst (n := 25) (v := 1) C dX4_addStone_24 rfl (by decide) ?_
  refine g_isub (n := 26) C dX4_addStone_25 rfl ?_
  refine g_iret C dX4_addStone_26 (by decide) (by decide) ?_
  rw [show nI (n + 1) - 1 = nI n from n_pred rfl (by omega)]
  exact hp q hs sh e M g hms hmh hfq hfhs hfsh hze hea hz1 hz2 hz3
theorem dX2_sinkAt_0 : decode cX2_sinkAt 0 = .ok (.aload_n 0, 1) := by decide +kernel
theorem dX2_sinkAt_1 : decode cX2_sinkAt 1 = .ok (.getfield 12, 3) := by decide +kernel
theorem dX2_sinkAt_4 : decode cX2_sinkAt 4 = .ok (.new 53, 3) := by decide +kernel
theorem dX2_sinkAt_7 : decode cX2_sinkAt 7 = .ok (.dup, 1) := by decide +kernel
theorem dX2_sinkAt_8 : decode cX2_sinkAt 8 = .ok (.iload_n 1, 1) := by decide +kernel
theorem dX2_sinkAt_9 : decode cX2_sinkAt 9 = .ok (.aload_n 0, 1) := by decide +kernel
theorem dX2_sinkAt_10 : decode cX2_sinkAt 10 = .ok (.getfield 36, 3) := by decide +kernel
theorem dX2_sinkAt_13 : decode cX2_sinkAt 13 = .ok (.aload_n 0, 1) := by decide +kernel
theorem dX2_sinkAt_14 : decode cX2_sinkAt 14 = .ok (.getfield 28, 3) := by decide +kernel
theorem dX2_sinkAt_17 : decode cX2_sinkAt 17 = .ok (.invokespecial 78, 3) := by decide +kernel
theorem dX2_sinkAt_20 : decode cX2_sinkAt 20 = .ok (.invokevirtual 81, 3) := by decide +kernel
theorem dX2_sinkAt_23 : decode cX2_sinkAt 23 = .ok (.pop, 1) := by decide +kernel
theorem dX2_sinkAt_24 : decode cX2_sinkAt 24 = .ok (.aload_n 0, 1) := by decide +kernel
theorem dX2_sinkAt_25 : decode cX2_sinkAt 25 = .ok (.getfield 12, 3) := by decide +kernel
theorem dX2_sinkAt_28 : decode cX2_sinkAt 28 = .ok (.invokevirtual 45, 3) := by decide +kernel
theorem dX2_sinkAt_31 : decode cX2_sinkAt 31 = .ok (.iconst 1, 1) := by decide +kernel
theorem dX2_sinkAt_32 : decode cX2_sinkAt 32 = .ok (.isub, 1) := by decide +kernel
theorem dX2_sinkAt_33 : decode cX2_sinkAt 33 = .ok (.ireturn, 1) := by decide +kernel
set_option maxHeartbeats 1000000 in
set_option maxRecDepth 20000 in
theorem cc_sinkAt {l : Launch} {E : Ev} {P : Value → AH → Prop}  {k al le gr lw : Nat} {sp to : Int32} {h : AH} (hk : h k = some (.inr (2, [.ref al, .ref le, .ref gr, .ref lw, .int sp, .int to]))) {d n : Nat} {mc : Int32} (he : h al = some (.inr (0, [.int mc, .ref d, .int (nI n)]))) {N : Nat} {f : Nat → Option Nat} (hl : alF E h d n N f) (hn9 : n ≤ 59) {ap fd bo sq : Int32} (hlw : h lw = some (.inr (3, [.int ap, .int fd, .int bo]))) (hp : ∀ q e M g, h q = none → ((e = d ∧ 1 ≤ N) ∨ (LW [(q, .inr (5, [.int sq, .int to, .int (to + fd), .int bo, .int (-1), .int (-1)]))] h) e = none) → e ≠ al → n + 1 ≤ M → M ≤ 100 → (∀ i, i < n → g i = f i) → P (.int (nI n)) (hset (hset (LW [(q, .inr (5, [.int sq, .int to, .int (to + fd), .int bo, .int (-1), .int (-1)]))] h) e (eQ E M (va_up g n (some q)))) al (.inr (0, [.int (mc + 1), .ref e, .int (nI (n + 1))])))) : Mt l E yX2_sinkAt cX2_sinkAt 2 (some .int) 7 152 2 106 [.ref k, .int sq] (h) P := by
  refine Mt.of (by decide) (Nat.le_of_ble_eq_true rfl) ?_
  intro K hK hR C
  refine g_aload_n (n := 1) C dX2_sinkAt_0 rfl rfl ?_
  refine g_get (n := 4) (T := TX2) C 0 dX2_sinkAt_1 rfl hk rfl rfl (by decide) inX2 w_146 rfl ?_
  refine g_new (n := 7) (ci := 5) (T := TX5) (fs := [.int 0, .int 0, .int 0, .int 0, .int 0, .int 0]) (ty0 := tyX5) C dX2_sinkAt_4 rfl rfl inX5 w_312 w_744 w_60 tyX5_ok (by decide) (roomC hR rfl) (roomS hR rfl) ?_
  intro q hqq heq
  rw [← LW_one]
  have hfq : h q = none := hqq
  have hkq : k ∉ [q] := nm1 hfq hk
  have hwL : lw ∉ [q] := nm1 hfq hlw
  refine g_dup (n := 8) C dX2_sinkAt_7 rfl rfl ?_
  refine g_iload_n (n := 9) C dX2_sinkAt_8 rfl rfl ?_
  refine g_aload_n (n := 10) C dX2_sinkAt_9 rfl rfl ?_
  refine b_get (n := 13) (T := TX2) 5 C dX2_sinkAt_10 rfl hk hkq rfl rfl (by decide) inX2 w_151 rfl ?_
  refine g_aload_n (n := 14) C dX2_sinkAt_13 rfl rfl ?_
  refine b_get (n := 17) (T := TX2) 3 C dX2_sinkAt_14 rfl hk hkq rfl rfl (by decide) inX2 w_149 rfl ?_
  refine g_callI (n := 20) (As := [.int _, .int _, .ref _]) C dX2_sinkAt_17 rfl mw_X5_init w_745 rfl rfl (room hR rfl) (cc_pitInit hlw hwL ?_)
  have hkL : k ∉ [q] := nm1 hfq hk
  have haL : al ∉ [q] := nm1 hfq he
  have hnL : ∀ z ∈ [q], h z = none := zfm1 hfq
  refine g_callV (n := 23) (As := [.ref _]) C dX2_sinkAt_20 rfl mw_Jx4a65c_add_9ea2d w_776 (g_recv C (lnb he (by exact haL)) rfl) rfl rfl (room hR rfl) (ct_add (lnb he (by exact haL)) (isO5 (LW_at (by exact (lA_one q dE)) 0 rfl)) hn9 (alF_up hnL hl) (fun e M g hze hea hz1 hz2 hz3 => ?_))
  have hk3 : (hset (hset (LW [(q, .inr (5, [.int sq, .int to, .int (to + fd), .int bo, .int (-1), .int (-1)]))] h) e (eQ E M (va_up g n (some q)))) al (.inr (0, [.int (mc + 1), .ref e, .int (nI (n + 1))]))) k = some (.inr (2, [.ref al, .ref le, .ref gr, .ref lw, .int sp, .int to])) := (hset_ne _ _ (fun z => by rw [z, he] at hk; cases hk)).trans ((hset_ne _ _ (al_ne hl hze hk (by exact hkL))).trans (lnb hk (by exact hkL)))
  have he3 : (hset (hset (LW [(q, .inr (5, [.int sq, .int to, .int (to + fd), .int bo, .int (-1), .int (-1)]))] h) e (eQ E M (va_up g n (some q)))) al (.inr (0, [.int (mc + 1), .ref e, .int (nI (n + 1))]))) al = some (.inr (0, [.int (mc + 1), .ref e, .int (nI (n + 1))])) := hset_same _ _ _
  refine g_pop (n := 24) C dX2_sinkAt_23 rfl rfl ?_
  refine g_aload_n (n := 25) C dX2_sinkAt_24 rfl rfl ?_
  refine g_get (n := 28) (T := TX2) C 0 dX2_sinkAt_25 rfl hk3 rfl rfl (by decide) inX2 w_146 rfl ?_
  refine g_callV (n := 31) (As := []) C dX2_sinkAt_28 rfl mw_Jx4a65c_size_8abf5 w_294 (g_recv C he3 rfl) rfl rfl (room hR rfl) (ct_alSize he3 ?_)
  refine g_iconst (n := 32) (v := 1) C dX2_sinkAt_31 rfl (by decide) ?_
  refine g_isub (n := 33) C dX2_sinkAt_32 rfl ?_
  refine g_iret C dX2_sinkAt_33 (by decide) (by decide) ?_
  rw [show nI (n + 1) - 1 = nI n from n_pred rfl (by omega)]
  exact hp q e M g hfq hze hea hz1 hz2 hz3
theorem dX2_tellFound_0 : decode cX2_tellFound 0 = .ok (.aload_n 1, 1) := by decide +kernel
theorem dX2_tellFound_1 : decode cX2_tellFound 1 = .ok (.getfield 85, 3) := by decide +kernel
theorem dX2_tellFound_4 : decode cX2_tellFound 4 = .ok (.iconst (-1), 1) := by decide +kernel
theorem dX2_tellFound_5 : decode cX2_tellFound 5 = .ok (.if_icmp .eq 5, 3) := by decide +kernel
theorem dX2_tellFound_8 : decode cX2_tellFound 8 = .ok (.iconst 0, 1) := by decide +kernel
theorem dX2_tellFound_9 : decode cX2_tellFound 9 = .ok (.ireturn, 1) := by decide +kernel
theorem dX2_tellFound_10 : decode cX2_tellFound 10 = .ok (.aload_n 1, 1) := by decide +kernel
theorem dX2_tellFound_11 : decode cX2_tellFound 11 = .ok (.iload_n 2, 1) := by decide +kernel
theorem dX2_tellFound_12 : decode cX2_tellFound 12 = .ok (.putfield 85, 3) := by decide +kernel
theorem dX2_tellFound_15 : decode cX2_tellFound 15 = .ok (.aload_n 0, 1) := by decide +kernel
theorem dX2_tellFound_16 : decode cX2_tellFound 16 = .ok (.aload_n 1, 1) := by decide +kernel
theorem dX2_tellFound_17 : decode cX2_tellFound 17 = .ok (.invokevirtual 55, 3) := by decide +kernel
theorem dX2_tellFound_20 : decode cX2_tellFound 20 = .ok (.iconst 1, 1) := by decide +kernel
theorem dX2_tellFound_21 : decode cX2_tellFound 21 = .ok (.ireturn, 1) := by decide +kernel
set_option maxHeartbeats 400000 in
set_option maxRecDepth 20000 in
theorem cc_tell {l : Launch} {E : Ev} {P : Value → AH → Prop}  {k al le gr lw : Nat} {sp to : Int32} {h : AH} (hk : h k = some (.inr (2, [.ref al, .ref le, .ref gr, .ref lw, .int sp, .int to]))) {Lf Gf : Nat → Int32} (hl : h le = some (.inl (E.2.2 1, 96, .inl Lf))) (hg : h gr = some (.inl (E.2.2 1, 96, .inl Gf))) {a : Nat} {sq su la bo fo fi : Int32} (ha : h a = some (.inr (5, [.int sq, .int su, .int la, .int bo, .int fo, .int fi]))) (hlg : le ≠ gr) (hkn : k ∉ [le, gr]) (han : a ∉ [le, gr]) {g : Int32} (hg9 : ¬ g = -1) (k0 : ¬ fo = -1 → P (.int 0) h) (k1 : fo = -1 → P (.int 1) (LW [(le, .inl (E.2.2 1, 96, .inl (nlo Lf sp sq g 96))), (gr, .inl (E.2.2 1, 96, .inl (nhi Gf sp sq g 96)))] (hset h a (.inr (5, [.int sq, .int su, .int la, .int bo, .int g, .int fi]))))) : Mt l E yX2_tellFound cX2_tellFound 3 (some .boolean) 3 67 0 0 [.ref k, .ref a, .int g] (h) P := by
  refine Mt.of (by decide) (Nat.le_of_ble_eq_true rfl) ?_
  intro K hK hR C
  refine g_aload_n (n := 1) C dX2_tellFound_0 rfl rfl ?_
  refine g_get (n := 4) (T := TX5) C 4 dX2_tellFound_1 rfl ha rfl rfl (by decide) inX5 w_759 rfl ?_
  refine g_iconst (n := 5) (v := (-1)) C dX2_tellFound_4 rfl (by decide) ?_
  refine g_icmp_eq (n := 8) (t := 10) C dX2_tellFound_5 rfl (by decide) (fun zc5 => ?_) (fun zc5 => ?_)
  · --t5
    rw [LW_is ha]
    have A0 : lA [(a, (.inr (5, [.int sq, .int su, .int la, .int bo, .int fo, .int fi]) : va_E))] := lA_one _ _
    refine g_aload_n (n := 11) C dX2_tellFound_10 rfl rfl ?_
    refine g_iload_n (n := 12) C dX2_tellFound_11 rfl rfl ?_
    refine l_put (n := 15) (T := TX5) (ty0 := tyX5) C 0 4 dX2_tellFound_12 rfl A0 rfl rfl (by decide) inX5 w_759 rfl tyX5_ok nmX5 rfl rfl rfl rfl (by show 4 < 6; decide) ?_
    dsimp only [List.set]
    rw [LW_one]
    have hk2 := (hset_ne h (.inr (5, [.int sq, .int su, .int la, .int bo, .int g, .int fi]) : va_E) (show k ≠ a from fun z => by rw [z, ha] at hk; cases hk)).trans hk
    have hl2 := (hset_ne h (.inr (5, [.int sq, .int su, .int la, .int bo, .int g, .int fi]) : va_E) (show le ≠ a from fun z => by rw [z, ha] at hl; cases hl)).trans hl
    have hg2 := (hset_ne h (.inr (5, [.int sq, .int su, .int la, .int bo, .int g, .int fi]) : va_E) (show gr ≠ a from fun z => by rw [z, ha] at hg; cases hg)).trans hg
    refine g_aload_n (n := 16) C dX2_tellFound_15 rfl rfl ?_
    refine g_aload_n (n := 17) C dX2_tellFound_16 rfl rfl ?_
    refine g_callV (n := 20) (As := [.ref _]) C dX2_tellFound_17 rfl mw_X2_narrowSpans w_495 (g_recv C hk2 rfl) rfl rfl (room hR rfl) (cc_narrow hk2 hl2 hg2 (hset_same _ _ _) hlg hkn han (fun z => absurd z hg9) (fun zq16 => ?_))
    refine g_iconst (n := 21) (v := 1) C dX2_tellFound_20 rfl (by decide) ?_
    refine g_zret C dX2_tellFound_21 (by decide) (by decide) (by rfl) ?_
    exact k1 zc5
  · --f5
    refine g_iconst (n := 9) (v := 0) C dX2_tellFound_8 rfl (by decide) ?_
    refine g_zret C dX2_tellFound_9 (by decide) (by decide) (by rfl) ?_
    exact k0 zc5
/-- the ends of all spans, as the first p pits leave them -/
noncomputable def gLo (A : Nat → Nat → Int32) (Lf : Nat → Int32) (sp : Int32) : Nat → Nat → Int32
  | 0 => flf Lf 0 96
  | p + 1 => @ite _ (A 5 p = -1) (Classical.propDecidable _) (gLo A Lf sp p) (nlo (gLo A Lf sp p) sp (A 3 p) (A 5 p) 96)
noncomputable def gHi (A : Nat → Nat → Int32) (Gf : Nat → Int32) (sp : Int32) : Nat → Nat → Int32
  | 0 => flf Gf 100 96
  | p + 1 => @ite _ (A 5 p = -1) (Classical.propDecidable _) (gHi A Gf sp p) (nhi (gHi A Gf sp p) sp (A 3 p) (A 5 p) 96)
theorem LW_top {k le gr : Nat} {a b c x y : va_E} {h : AH} (h1 : k ∉ [le, gr]) (h2 : le ≠ gr) : LW [(le, x), (gr, y)] (LW [(k, a), (le, b), (gr, c)] h) = LW [(k, a), (le, x), (gr, y)] h := by
  have A : lA [(k, a), (le, b), (gr, c)] := lA_three h1 h2
  have A2 : lA [(k, a), (le, b), (gr, y)] := lA_three h1 h2
  rw [LW_two h2.symm, LW_put A 2 rfl]
  dsimp only [List.set]
  rw [LW_put A2 1 rfl]
  rfl
theorem dX2_setStep_0 : decode cX2_setStep 0 = .ok (.aload_n 0, 1) := by decide +kernel
theorem dX2_setStep_1 : decode cX2_setStep 1 = .ok (.iload_n 1, 1) := by decide +kernel
theorem dX2_setStep_2 : decode cX2_setStep 2 = .ok (.putfield 32, 3) := by decide +kernel
theorem dX2_setStep_5 : decode cX2_setStep 5 = .ok (.aload_n 0, 1) := by decide +kernel
theorem dX2_setStep_6 : decode cX2_setStep 6 = .ok (.getfield 18, 3) := by decide +kernel
theorem dX2_setStep_9 : decode cX2_setStep 9 = .ok (.iconst 0, 1) := by decide +kernel
theorem dX2_setStep_10 : decode cX2_setStep 10 = .ok (.invokestatic 39, 3) := by decide +kernel
theorem dX2_setStep_13 : decode cX2_setStep 13 = .ok (.aload_n 0, 1) := by decide +kernel
theorem dX2_setStep_14 : decode cX2_setStep 14 = .ok (.getfield 22, 3) := by decide +kernel
theorem dX2_setStep_17 : decode cX2_setStep 17 = .ok (.bipush 100, 2) := by decide +kernel
theorem dX2_setStep_19 : decode cX2_setStep 19 = .ok (.invokestatic 39, 3) := by decide +kernel
theorem dX2_setStep_22 : decode cX2_setStep 22 = .ok (.iconst 0, 1) := by decide +kernel
theorem dX2_setStep_23 : decode cX2_setStep 23 = .ok (.istore_n 2, 1) := by decide +kernel
theorem dX2_setStep_24 : decode cX2_setStep 24 = .ok (.iload_n 2, 1) := by decide +kernel
theorem dX2_setStep_25 : decode cX2_setStep 25 = .ok (.aload_n 0, 1) := by decide +kernel
theorem dX2_setStep_26 : decode cX2_setStep 26 = .ok (.getfield 12, 3) := by decide +kernel
theorem dX2_setStep_29 : decode cX2_setStep 29 = .ok (.invokevirtual 45, 3) := by decide +kernel
theorem dX2_setStep_32 : decode cX2_setStep 32 = .ok (.if_icmp .ge 24, 3) := by decide +kernel
theorem dX2_setStep_35 : decode cX2_setStep 35 = .ok (.aload_n 0, 1) := by decide +kernel
theorem dX2_setStep_36 : decode cX2_setStep 36 = .ok (.aload_n 0, 1) := by decide +kernel
theorem dX2_setStep_37 : decode cX2_setStep 37 = .ok (.getfield 12, 3) := by decide +kernel
theorem dX2_setStep_40 : decode cX2_setStep 40 = .ok (.iload_n 2, 1) := by decide +kernel
theorem dX2_setStep_41 : decode cX2_setStep 41 = .ok (.invokevirtual 49, 3) := by decide +kernel
theorem dX2_setStep_44 : decode cX2_setStep 44 = .ok (.checkcast 53, 3) := by decide +kernel
theorem dX2_setStep_47 : decode cX2_setStep 47 = .ok (.invokevirtual 55, 3) := by decide +kernel
theorem dX2_setStep_50 : decode cX2_setStep 50 = .ok (.iinc 2 1, 3) := by decide +kernel
theorem dX2_setStep_53 : decode cX2_setStep 53 = .ok (.goto (-29), 3) := by decide +kernel
theorem dX2_setStep_56 : decode cX2_setStep 56 = .ok (.return_, 1) := by decide +kernel
set_option maxHeartbeats 2000000 in
set_option maxRecDepth 20000 in
theorem cc_setStep {l : Launch} {E : Ev} {P : Value → AH → Prop}  {k al le gr lw : Nat} {sp to : Int32} {h : AH} (hk : h k = some (.inr (2, [.ref al, .ref le, .ref gr, .ref lw, .int sp, .int to]))) {d n : Nat} {mc : Int32} (he : h al = some (.inr (0, [.int mc, .ref d, .int (nI n)]))) {N : Nat} {f : Nat → Option Nat} (hd : n ≠ 0 → h d = some (eQ E N f)) (hnN : n ≤ N) (hN : N ≤ 100) {A : Nat → Nat → Int32} {pa : Nat → Nat} (hpa : cpits h A f pa n) {Lf Gf : Nat → Int32} (hl : h le = some (.inl (E.2.2 1, 96, .inl Lf))) (hg : h gr = some (.inl (E.2.2 1, 96, .inl Gf))) (hlg : le ≠ gr) (hkn : k ∉ [le, gr]) (haln : al ∉ [k, le, gr]) (hdn : n ≠ 0 → d ∉ [k, le, gr]) (hpn9 : ∀ i, i < n → pa i ∉ [k, le, gr]) {sp9 : Int32} (hp : P .null (LW [(k, (.inr (2, [.ref al, .ref le, .ref gr, .ref lw, .int sp9, .int to]))), (le, .inl (E.2.2 1, 96, .inl (gLo A Lf sp9 n))), (gr, .inl (E.2.2 1, 96, .inl (gHi A Gf sp9 n)))] h)) : Mt l E yX2_setStep cX2_setStep 3 none 3 67 0 0 [.ref k, .int sp9] (h) P := by
  refine Mt.of (by decide) (Nat.le_of_ble_eq_true rfl) ?_
  intro K hK hR C
  have A0 : lA [(k, dE), (le, dE), (gr, dE)] := lA_three hkn hlg
  rw [LW_is3 hk hl hg]
  refine g_aload_n (n := 1) C dX2_setStep_0 rfl rfl ?_
  refine g_iload_n (n := 2) C dX2_setStep_1 rfl rfl ?_
  refine l_put (n := 5) (T := TX2) (ty0 := tyX2) C 0 4 dX2_setStep_2 rfl A0 rfl rfl (by decide) inX2 w_150 rfl tyX2_ok nmX2 rfl rfl rfl rfl (by show 4 < 6; decide) ?_
  dsimp only [List.set]
  refine g_aload_n (n := 6) C dX2_setStep_5 rfl rfl ?_
  refine l_get (n := 9) (T := TX2) C 0 1 dX2_setStep_6 rfl A0 rfl rfl rfl (by decide) inX2 w_147 rfl ?_
  refine g_iconst (n := 10) (v := 0) C dX2_setStep_9 rfl (by decide) ?_
  refine g_callS (n := 13) (As := [.ref le, .int 0]) C dX2_setStep_10 rfl mw_J7_fill_53178 w_143 rfl rfl (room hR rfl) (ct_fillL 1 (by exact A0) rfl (by decide) ?_)
  dsimp only [List.set]
  refine g_aload_n (n := 14) C dX2_setStep_13 rfl rfl ?_
  refine l_get (n := 17) (T := TX2) C 0 2 dX2_setStep_14 rfl A0 rfl rfl rfl (by decide) inX2 w_148 rfl ?_
  refine g_bipush (n := 19) (v := 100) C dX2_setStep_17 rfl (by decide) ?_
  refine g_callS (n := 22) (As := [.ref gr, .int 100]) C dX2_setStep_19 rfl mw_J7_fill_53178 w_143 rfl rfl (room hR rfl) (ct_fillL 2 (by exact A0) rfl (by decide) ?_)
  dsimp only [List.set]
  refine g_iconst (n := 23) (v := 0) C dX2_setStep_22 rfl (by decide) ?_
  refine g_istore_n (n := 24) C dX2_setStep_23 rfl (by decide) ?_
  have lp : ∀ p : Nat, p ≤ n → ∀ (t9 : Int32), t9 = nI p → G K E 3 (QM K E none 0 0 P) 0 0 24 [(0, .ref k), (1, .int sp9), (2, .int t9)] [] (LW [(k, (.inr (2, [.ref al, .ref le, .ref gr, .ref lw, .int sp9, .int to]))), (le, .inl (E.2.2 1, 96, .inl ((gLo A Lf sp9 p)))), (gr, .inl (E.2.2 1, 96, .inl ((gHi A Gf sp9 p))))] h) := by
    refine loopN (fun p => ∀ (t9 : Int32), t9 = nI p → G K E 3 (QM K E none 0 0 P) 0 0 24 [(0, .ref k), (1, .int sp9), (2, .int t9)] [] (LW [(k, (.inr (2, [.ref al, .ref le, .ref gr, .ref lw, .int sp9, .int to]))), (le, .inl (E.2.2 1, 96, .inl ((gLo A Lf sp9 p)))), (gr, .inl (E.2.2 1, 96, .inl ((gHi A Gf sp9 p))))] h)) (n) ?_
    intro p hlep ihp t9 et
    subst et
    refine g_iload_n (n := 25) C dX2_setStep_24 rfl rfl ?_
    refine g_aload_n (n := 26) C dX2_setStep_25 rfl rfl ?_
    refine l_get (n := 29) (T := TX2) C 0 0 dX2_setStep_26 rfl A0 rfl rfl rfl (by decide) inX2 w_146 rfl ?_
    refine g_callV (n := 32) (As := []) C dX2_setStep_29 rfl mw_Jx4a65c_size_8abf5 w_294 (g_recv C (lnb he (by exact haln)) rfl) rfl rfl (room hR rfl) (ct_alSize (lnb he (by exact haln)) ?_)
    refine g_icmp_ge (n := 35) (t := 56) C dX2_setStep_32 rfl (by decide) (fun zc32 => ?_) (fun zc32 => ?_)
    · --t32
      refine g_vret C dX2_setStep_56 (by decide) (by decide) ?_
      have ep : p = n := i_eq (x := nI n) rfl zc32 hlep (by omega)
      subst ep
      exact hp
    · --f32
      refine g_aload_n (n := 36) C dX2_setStep_35 rfl rfl ?_
      refine g_aload_n (n := 37) C dX2_setStep_36 rfl rfl ?_
      refine l_get (n := 40) (T := TX2) C 0 0 dX2_setStep_37 rfl A0 rfl rfl rfl (by decide) inX2 w_146 rfl ?_
      refine g_iload_n (n := 41) C dX2_setStep_40 rfl rfl ?_
      refine g_callV (n := 44) (As := [.int _]) C dX2_setStep_41 rfl mw_Jx4a65c_get_915e3 w_298 (g_recv C (lnb he (by exact haln)) rfl) rfl rfl (room hR rfl) (ct_alGet (lnb he (by exact haln)) (lnb (hd (by have := (i_lt (x := nI n) rfl zc32 hlep (by omega)); omega)) (by exact hdn (by have := (i_lt (x := nI n) rfl zc32 hlep (by omega)); omega))) (i_lt (x := nI n) rfl zc32 hlep (by omega)) hnN hN (hpa p (i_lt (x := nI n) rfl zc32 hlep (by omega))).1 ?_)
      have hpl := (hpa p (i_lt (x := nI n) rfl zc32 hlep (by omega)))
      have hpn := hpn9 p (i_lt (x := nI n) rfl zc32 hlep (by omega))
      refine g_cast (n := 47) C dX2_setStep_44 rfl (lnb hpl.2 (by exact hpn)) rfl w_312 ?_
      refine g_callV (n := 50) (As := [.ref _]) C dX2_setStep_47 rfl mw_X2_narrowSpans w_495 (g_recv (ci := 2) C (LW_at (by exact A0) 0 rfl) rfl) rfl rfl (room hR rfl) (cc_narrow (LW_at (by exact A0) 0 rfl) (LW_at (by exact A0) 1 rfl) (LW_at (by exact A0) 2 rfl) (lnb hpl.2 (by exact hpn)) hlg hkn (fun z => hpn (List.mem_cons_of_mem _ z)) (fun za47 => ?_) (fun zb47 => ?_))
      · --k47.0
        rw [show gLo A Lf sp9 p = gLo A Lf sp9 (p + 1) from by rw [gLo, if_pos za47], show gHi A Gf sp9 p = gHi A Gf sp9 (p + 1) from by rw [gHi, if_pos za47]]
        refine g_iinc (n := 53) C dX2_setStep_50 rfl rfl rfl (by decide) ?_
        refine g_goto (t := 24) C dX2_setStep_53 (by decide) ?_
        exact g_lv [0, 1, 2] rfl (ihp (i_lt (x := nI n) rfl zc32 hlep (by omega)) _ (nI_1 p))
      · --k47.1
        rw [LW_top hkn hlg, show nlo (gLo A Lf sp9 p) sp9 (A 3 p) (A 5 p) 96 = gLo A Lf sp9 (p + 1) from by rw [gLo, if_neg zb47], show nhi (gHi A Gf sp9 p) sp9 (A 3 p) (A 5 p) 96 = gHi A Gf sp9 (p + 1) from by rw [gHi, if_neg zb47]]
        refine g_iinc (n := 53) C dX2_setStep_50 rfl rfl rfl (by decide) ?_
        refine g_goto (t := 24) C dX2_setStep_53 (by decide) ?_
        exact g_lv [0, 1, 2] rfl (ihp (i_lt (x := nI n) rfl zc32 hlep (by omega)) _ (nI_1 p))
  exact g_lv [0, 1, 2] rfl (lp 0 (Nat.zero_le _) _ rfl)
/-- what was had, with the shares of places 1 to p - 1 -/
def hadd (Hd S : Nat → Int32) (p : Nat) : Nat → Int32 := fun k => if 1 ≤ k ∧ k < p then Hd k + S k else Hd k
theorem hadd_1 (Hd S : Nat → Int32) : hadd Hd S 1 = Hd := by
  funext k
  unfold hadd
  rw [if_neg (fun q => by omega)]
theorem hadd_at (Hd S : Nat → Int32) (p : Nat) : hadd Hd S p p = Hd p := if_neg (fun q => by omega)
theorem hadd_s {Hd S : Nat → Int32} {p : Nat} (h : 1 ≤ p) : upd (hadd Hd S p) p (Hd p + S p) = hadd Hd S (p + 1) := by
  funext k
  unfold upd hadd
  by_cases h1 : k = p
  · rw [if_pos h1, if_pos (by omega), h1]
  · rw [if_neg h1]
    by_cases h2 : 1 ≤ k ∧ k < p
    · rw [if_pos h2, if_pos (by omega)]
    · rw [if_neg h2, if_neg (by omega)]
theorem lA_four {a b c d : Nat} (h1 : a ∉ [b, c, d]) (h2 : b ∉ [c, d]) (h3 : c ≠ d) : lA [(a, dE), (b, dE), (c, dE), (d, dE)] := List.pairwise_cons.mpr ⟨fun z hz e => h1 (by rw [show a = z from e]; exact hz), lA_three h2 h3⟩
theorem dX4_sellTo_0 : decode cX4_sellTo 0 = .ok (.aload_n 1, 1) := by decide +kernel
theorem dX4_sellTo_1 : decode cX4_sellTo 1 = .ok (.iload_n 2, 1) := by decide +kernel
theorem dX4_sellTo_2 : decode cX4_sellTo 2 = .ok (.putfield 53, 3) := by decide +kernel
theorem dX4_sellTo_5 : decode cX4_sellTo 5 = .ok (.aload_n 1, 1) := by decide +kernel
theorem dX4_sellTo_6 : decode cX4_sellTo 6 = .ok (.aload_n 1, 1) := by decide +kernel
theorem dX4_sellTo_7 : decode cX4_sellTo 7 = .ok (.getfield 56, 3) := by decide +kernel
theorem dX4_sellTo_10 : decode cX4_sellTo 10 = .ok (.iload_n 2, 1) := by decide +kernel
theorem dX4_sellTo_11 : decode cX4_sellTo 11 = .ok (.iaload, 1) := by decide +kernel
theorem dX4_sellTo_12 : decode cX4_sellTo 12 = .ok (.putfield 59, 3) := by decide +kernel
theorem dX4_sellTo_15 : decode cX4_sellTo 15 = .ok (.aload_n 0, 1) := by decide +kernel
theorem dX4_sellTo_16 : decode cX4_sellTo 16 = .ok (.getfield 25, 3) := by decide +kernel
theorem dX4_sellTo_19 : decode cX4_sellTo 19 = .ok (.aload_n 1, 1) := by decide +kernel
theorem dX4_sellTo_20 : decode cX4_sellTo 20 = .ok (.getfield 59, 3) := by decide +kernel
theorem dX4_sellTo_23 : decode cX4_sellTo 23 = .ok (.aload_n 0, 1) := by decide +kernel
theorem dX4_sellTo_24 : decode cX4_sellTo 24 = .ok (.getfield 29, 3) := by decide +kernel
theorem dX4_sellTo_27 : decode cX4_sellTo 27 = .ok (.aload_n 0, 1) := by decide +kernel
theorem dX4_sellTo_28 : decode cX4_sellTo 28 = .ok (.getfield 18, 3) := by decide +kernel
theorem dX4_sellTo_31 : decode cX4_sellTo 31 = .ok (.iconst 3, 1) := by decide +kernel
theorem dX4_sellTo_32 : decode cX4_sellTo 32 = .ok (.iaload, 1) := by decide +kernel
theorem dX4_sellTo_33 : decode cX4_sellTo 33 = .ok (.aload_n 1, 1) := by decide +kernel
theorem dX4_sellTo_34 : decode cX4_sellTo 34 = .ok (.getfield 62, 3) := by decide +kernel
theorem dX4_sellTo_37 : decode cX4_sellTo 37 = .ok (.invokevirtual 65, 3) := by decide +kernel
theorem dX4_sellTo_40 : decode cX4_sellTo 40 = .ok (.iconst 1, 1) := by decide +kernel
theorem dX4_sellTo_41 : decode cX4_sellTo 41 = .ok (.istore_n 3, 1) := by decide +kernel
theorem dX4_sellTo_42 : decode cX4_sellTo 42 = .ok (.iload_n 3, 1) := by decide +kernel
theorem dX4_sellTo_43 : decode cX4_sellTo 43 = .ok (.bipush 6, 2) := by decide +kernel
theorem dX4_sellTo_45 : decode cX4_sellTo 45 = .ok (.if_icmp .ge 24, 3) := by decide +kernel
theorem dX4_sellTo_48 : decode cX4_sellTo 48 = .ok (.aload_n 0, 1) := by decide +kernel
theorem dX4_sellTo_49 : decode cX4_sellTo 49 = .ok (.getfield 18, 3) := by decide +kernel
theorem dX4_sellTo_52 : decode cX4_sellTo 52 = .ok (.iload_n 3, 1) := by decide +kernel
theorem dX4_sellTo_53 : decode cX4_sellTo 53 = .ok (.dup2, 1) := by decide +kernel
theorem dX4_sellTo_54 : decode cX4_sellTo 54 = .ok (.iaload, 1) := by decide +kernel
theorem dX4_sellTo_55 : decode cX4_sellTo 55 = .ok (.aload_n 1, 1) := by decide +kernel
theorem dX4_sellTo_56 : decode cX4_sellTo 56 = .ok (.getfield 62, 3) := by decide +kernel
theorem dX4_sellTo_59 : decode cX4_sellTo 59 = .ok (.iload_n 3, 1) := by decide +kernel
theorem dX4_sellTo_60 : decode cX4_sellTo 60 = .ok (.iaload, 1) := by decide +kernel
theorem dX4_sellTo_61 : decode cX4_sellTo 61 = .ok (.iadd, 1) := by decide +kernel
theorem dX4_sellTo_62 : decode cX4_sellTo 62 = .ok (.iastore, 1) := by decide +kernel
theorem dX4_sellTo_63 : decode cX4_sellTo 63 = .ok (.iinc 3 1, 3) := by decide +kernel
theorem dX4_sellTo_66 : decode cX4_sellTo 66 = .ok (.goto (-24), 3) := by decide +kernel
theorem dX4_sellTo_69 : decode cX4_sellTo 69 = .ok (.aload_n 0, 1) := by decide +kernel
theorem dX4_sellTo_70 : decode cX4_sellTo 70 = .ok (.dup, 1) := by decide +kernel
theorem dX4_sellTo_71 : decode cX4_sellTo 71 = .ok (.getfield 29, 3) := by decide +kernel
theorem dX4_sellTo_74 : decode cX4_sellTo 74 = .ok (.aload_n 1, 1) := by decide +kernel
theorem dX4_sellTo_75 : decode cX4_sellTo 75 = .ok (.getfield 62, 3) := by decide +kernel
theorem dX4_sellTo_78 : decode cX4_sellTo 78 = .ok (.iconst 0, 1) := by decide +kernel
theorem dX4_sellTo_79 : decode cX4_sellTo 79 = .ok (.iaload, 1) := by decide +kernel
theorem dX4_sellTo_80 : decode cX4_sellTo 80 = .ok (.isub, 1) := by decide +kernel
theorem dX4_sellTo_81 : decode cX4_sellTo 81 = .ok (.putfield 29, 3) := by decide +kernel
theorem dX4_sellTo_84 : decode cX4_sellTo 84 = .ok (.aload_n 0, 1) := by decide +kernel
theorem dX4_sellTo_85 : decode cX4_sellTo 85 = .ok (.dup, 1) := by decide +kernel
theorem dX4_sellTo_86 : decode cX4_sellTo 86 = .ok (.getfield 33, 3) := by decide +kernel
theorem dX4_sellTo_89 : decode cX4_sellTo 89 = .ok (.iconst 1, 1) := by decide +kernel
theorem dX4_sellTo_90 : decode cX4_sellTo 90 = .ok (.iadd, 1) := by decide +kernel
theorem dX4_sellTo_91 : decode cX4_sellTo 91 = .ok (.putfield 33, 3) := by decide +kernel
theorem dX4_sellTo_94 : decode cX4_sellTo 94 = .ok (.return_, 1) := by decide +kernel
set_option maxHeartbeats 2000000 in
set_option maxRecDepth 20000 in
theorem cc_sellTo {l : Launch} {E : Ev} {P : Value → AH → Prop}  {k al hd9 ag : Nat} {co so : Int32} {h : AH} (hk : h k = some (.inr (4, [.ref al, .ref hd9, .ref ag, .int co, .int so]))) {Hd : Nat → Int32} (hh : h hd9 = some (.inl (E.2.2 1, 6, .inl Hd))) {s9 hs sh u : Nat} {pi ba bu pr cf un : Int32} {G9 S H : Nat → Int32} (hst : h s9 = some (.inr (8, [.int pi, .int ba, .ref hs, .ref sh, .int bu, .int pr]))) (hhs : h hs = some (.inl (E.2.2 1, 6, .inl G9))) (hsh : h sh = some (.inl (E.2.2 1, 6, .inl S))) (hag : h ag = some (.inr (1, [.ref u, .int cf, .int un]))) (hu : h u = some (.inl (E.2.2 1, 6, .inl H))) (A0 : lA [(k, dE), (hd9, dE), (s9, dE)]) (hshL : sh ∉ [k, hd9, s9]) (hhsL : hs ∉ [k, hd9, s9]) (hagL : ag ∉ [k, hd9, s9]) (huL : u ∉ [k, hd9, s9]) (hags : ag ∉ [sh]) (hus : u ∉ [sh]) {j : Nat} (hj : j < 6) (hp : ∀ S9 : Nat → Int32, (∀ i, i < 6 → S9 i = cpr H cf un (G9 j) co (Hd 3) i) → P .null (LW [(k, (.inr (4, [.ref al, .ref hd9, .ref ag, .int (co - S9 0), .int (so + 1)]))), (hd9, .inl (E.2.2 1, 6, .inl (hadd Hd S9 6))), (s9, (.inr (8, [.int pi, .int ba, .ref hs, .ref sh, .int (nI j), .int (G9 j)]))), (sh, .inl (E.2.2 1, 6, .inl (S9)))] h)) : Mt l E yX4_sellTo cX4_sellTo 4 none 2 48 0 0 [.ref k, .ref s9, .int (nI j)] (h) P := by
  refine Mt.of (by decide) (Nat.le_of_ble_eq_true rfl) ?_
  intro K hK hR C
  rw [LW_is3 hk hh hst]
  refine g_aload_n (n := 1) C dX4_sellTo_0 rfl rfl ?_
  refine g_iload_n (n := 2) C dX4_sellTo_1 rfl rfl ?_
  refine l_put (n := 5) (T := TX8) (ty0 := tyX8) C 2 4 dX4_sellTo_2 rfl A0 rfl rfl (by decide) inX8 w_968 rfl tyX8_ok nmX8 rfl rfl rfl rfl (by show 4 < 6; decide) ?_
  dsimp only [List.set]
  refine g_aload_n (n := 6) C dX4_sellTo_5 rfl rfl ?_
  refine g_aload_n (n := 7) C dX4_sellTo_6 rfl rfl ?_
  refine l_get (n := 10) (T := TX8) C 2 2 dX4_sellTo_7 rfl A0 rfl rfl rfl (by decide) inX8 w_963 rfl ?_
  refine g_iload_n (n := 11) C dX4_sellTo_10 rfl rfl ?_
  refine f_iald (n := 12) (j) C dX4_sellTo_11 rfl (lnb hhs (by exact hhsL)) rfl hj (by decide) (rfl) ?_
  refine l_put (n := 15) (T := TX8) (ty0 := tyX8) C 2 5 dX4_sellTo_12 rfl A0 rfl rfl (by decide) inX8 w_971 rfl tyX8_ok nmX8 rfl rfl rfl rfl (by show 5 < 6; decide) ?_
  dsimp only [List.set]
  refine g_aload_n (n := 16) C dX4_sellTo_15 rfl rfl ?_
  refine l_get (n := 19) (T := TX4) C 0 2 dX4_sellTo_16 rfl A0 rfl rfl rfl (by decide) inX4 w_191 rfl ?_
  refine g_aload_n (n := 20) C dX4_sellTo_19 rfl rfl ?_
  refine l_get (n := 23) (T := TX8) C 2 5 dX4_sellTo_20 rfl A0 rfl rfl rfl (by decide) inX8 w_971 rfl ?_
  refine g_aload_n (n := 24) C dX4_sellTo_23 rfl rfl ?_
  refine l_get (n := 27) (T := TX4) C 0 3 dX4_sellTo_24 rfl A0 rfl rfl rfl (by decide) inX4 w_192 rfl ?_
  refine g_aload_n (n := 28) C dX4_sellTo_27 rfl rfl ?_
  refine l_get (n := 31) (T := TX4) C 0 1 dX4_sellTo_28 rfl A0 rfl rfl rfl (by decide) inX4 w_190 rfl ?_
  refine g_iconst (n := 32) (v := 3) C dX4_sellTo_31 rfl (by decide) ?_
  refine l_iald (n := 33) 1 (3) C dX4_sellTo_32 rfl A0 rfl rfl (by decide) (by decide) (rfl) ?_
  refine g_aload_n (n := 34) C dX4_sellTo_33 rfl rfl ?_
  refine l_get (n := 37) (T := TX8) C 2 3 dX4_sellTo_34 rfl A0 rfl rfl rfl (by decide) inX8 w_965 rfl ?_
  rw [LW_is (lnb hsh (by exact hshL))]
  refine g_callV (n := 40) (As := [.int _, .int _, .int _, .ref sh]) C dX4_sellTo_37 rfl mw_X0_partPrice w_1048 (g_recv (ci := 1) C (lnb (lnb hag (by exact hagL)) (by exact hags)) rfl) rfl rfl (room hR rfl) (cc_partPrice (lnb hag (by exact hagL)) (lnb hu (by exact huL)) (by exact hags) (by exact hus) (fun S9 hS9 => ?_))
  rw [LW_app (by exact (zfm1 hshL))]
  dsimp only [List.cons_append, List.nil_append]
  have A4 : lA [(k, dE), (hd9, dE), (s9, dE), (sh, dE)] := lA_snoc (L := [(k, dE), (hd9, dE), (s9, dE)]) dE A0 hshL
  refine g_iconst (n := 41) (v := 1) C dX4_sellTo_40 rfl (by decide) ?_
  refine g_istore_n (n := 42) C dX4_sellTo_41 rfl (by decide) ?_
  rw [show (LW [(k, (.inr (4, [.ref al, .ref hd9, .ref ag, .int co, .int so]))), (hd9, .inl (E.2.2 1, 6, .inl (Hd))), (s9, (.inr (8, [.int pi, .int ba, .ref hs, .ref sh, .int (nI j), .int (G9 j)]))), (sh, .inl (E.2.2 1, 6, .inl (S9)))] h) = LW [(k, (.inr (4, [.ref al, .ref hd9, .ref ag, .int co, .int so]))), (hd9, .inl (E.2.2 1, 6, .inl (hadd Hd S9 1))), (s9, (.inr (8, [.int pi, .int ba, .ref hs, .ref sh, .int (nI j), .int (G9 j)]))), (sh, .inl (E.2.2 1, 6, .inl (S9)))] h from by rw [hadd_1]]
  have lp : ∀ p : Nat, p ≤ 6 → ∀ (t9 : Int32), 1 ≤ p → t9 = nI p → G K E 4 (QM K E none 0 0 P) 0 0 42 [(0, .ref k), (1, .ref s9), (3, .int t9)] [] (LW [(k, (.inr (4, [.ref al, .ref hd9, .ref ag, .int co, .int so]))), (hd9, .inl (E.2.2 1, 6, .inl (hadd Hd S9 p))), (s9, (.inr (8, [.int pi, .int ba, .ref hs, .ref sh, .int (nI j), .int (G9 j)]))), (sh, .inl (E.2.2 1, 6, .inl (S9)))] h) := by
    refine loopN (fun p => ∀ (t9 : Int32), 1 ≤ p → t9 = nI p → G K E 4 (QM K E none 0 0 P) 0 0 42 [(0, .ref k), (1, .ref s9), (3, .int t9)] [] (LW [(k, (.inr (4, [.ref al, .ref hd9, .ref ag, .int co, .int so]))), (hd9, .inl (E.2.2 1, 6, .inl (hadd Hd S9 p))), (s9, (.inr (8, [.int pi, .int ba, .ref hs, .ref sh, .int (nI j), .int (G9 j)]))), (sh, .inl (E.2.2 1, 6, .inl (S9)))] h)) (6) ?_
    intro p hlep ihp t9 hp1 et
    subst et
    refine g_iload_n (n := 43) C dX4_sellTo_42 rfl rfl ?_
    refine g_bipush (n := 45) (v := 6) C dX4_sellTo_43 rfl (by decide) ?_
    refine g_icmp_ge (n := 48) (t := 69) C dX4_sellTo_45 rfl (by decide) (fun zc45 => ?_) (fun zc45 => ?_)
    · --t45
      refine g_aload_n (n := 70) C dX4_sellTo_69 rfl rfl ?_
      refine g_dup (n := 71) C dX4_sellTo_70 rfl rfl ?_
      refine l_get (n := 74) (T := TX4) C 0 3 dX4_sellTo_71 rfl A4 rfl rfl rfl (by decide) inX4 w_192 rfl ?_
      refine g_aload_n (n := 75) C dX4_sellTo_74 rfl rfl ?_
      refine l_get (n := 78) (T := TX8) C 2 3 dX4_sellTo_75 rfl A4 rfl rfl rfl (by decide) inX8 w_965 rfl ?_
      refine g_iconst (n := 79) (v := 0) C dX4_sellTo_78 rfl (by decide) ?_
      refine l_iald (n := 80) 3 (0) C dX4_sellTo_79 rfl A4 rfl rfl (by decide) (by decide) (rfl) ?_
      refine g_isub (n := 81) C dX4_sellTo_80 rfl ?_
      refine l_put (n := 84) (T := TX4) (ty0 := tyX4) C 0 3 dX4_sellTo_81 rfl A4 rfl rfl (by decide) inX4 w_192 rfl tyX4_ok nmX4 rfl rfl rfl rfl (by show 3 < 5; decide) ?_
      dsimp only [List.set]
      refine g_aload_n (n := 85) C dX4_sellTo_84 rfl rfl ?_
      refine g_dup (n := 86) C dX4_sellTo_85 rfl rfl ?_
      refine l_get (n := 89) (T := TX4) C 0 4 dX4_sellTo_86 rfl A4 rfl rfl rfl (by decide) inX4 w_193 rfl ?_
      refine g_iconst (n := 90) (v := 1) C dX4_sellTo_89 rfl (by decide) ?_
      refine g_iadd (n := 91) C dX4_sellTo_90 rfl ?_
      refine l_put (n := 94) (T := TX4) (ty0 := tyX4) C 0 4 dX4_sellTo_91 rfl A4 rfl rfl (by decide) inX4 w_193 rfl tyX4_ok nmX4 rfl rfl rfl rfl (by show 4 < 5; decide) ?_
      dsimp only [List.set]
      refine g_vret C dX4_sellTo_94 (by decide) (by decide) ?_
      have ep : p = 6 := i_eq (n := 6) rfl zc45 hlep (by decide)
      subst ep
      exact hp S9 hS9
    · --f45
      refine g_aload_n (n := 49) C dX4_sellTo_48 rfl rfl ?_
      refine l_get (n := 52) (T := TX4) C 0 1 dX4_sellTo_49 rfl A4 rfl rfl rfl (by decide) inX4 w_190 rfl ?_
      refine g_iload_n (n := 53) C dX4_sellTo_52 rfl rfl ?_
      refine g_dup2 (n := 54) C dX4_sellTo_53 rfl rfl rfl ?_
      refine l_iald (n := 55) (v := (Hd p)) 1 (p) C dX4_sellTo_54 rfl A4 rfl rfl (i_lt (n := 6) rfl zc45 hlep (by decide)) (by decide) (hadd_at _ _ _) ?_
      refine g_aload_n (n := 56) C dX4_sellTo_55 rfl rfl ?_
      refine l_get (n := 59) (T := TX8) C 2 3 dX4_sellTo_56 rfl A4 rfl rfl rfl (by decide) inX8 w_965 rfl ?_
      refine g_iload_n (n := 60) C dX4_sellTo_59 rfl rfl ?_
      refine l_iald (n := 61) 3 (p) C dX4_sellTo_60 rfl A4 rfl rfl (i_lt (n := 6) rfl zc45 hlep (by decide)) (by decide) (rfl) ?_
      refine g_iadd (n := 62) C dX4_sellTo_61 rfl ?_
      refine l_iast (n := 63) 1 (p) C dX4_sellTo_62 rfl A4 rfl rfl (i_lt (n := 6) rfl zc45 hlep (by decide)) (by decide) ?_
      dsimp only [List.set]
      rw [hadd_s hp1]
      refine g_iinc (n := 66) C dX4_sellTo_63 rfl rfl rfl (by decide) ?_
      refine g_goto (t := 42) C dX4_sellTo_66 (by decide) ?_
      exact g_lv [0, 1, 3] rfl (ihp (i_lt (n := 6) rfl zc45 hlep (by decide)) _ (by omega) (nI_1 p))
  exact g_lv [0, 1, 3] rfl (lp 1 (by decide) _ (Nat.le_refl _) rfl)
