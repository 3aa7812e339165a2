abbrev dE : va_E := .inr (0, [])
theorem lA_snoc {L : List (Nat × va_E)} {q : Nat} (e : va_E) (A : lA L) (hq : q ∉ L.map Prod.fst) : lA (L ++ [(q, e)]) := by
  unfold lA at A ⊢
  rw [List.map_append]
  exact List.pairwise_append.mpr ⟨A, List.pairwise_singleton _ _, fun x hx y hy z => by
    rw [List.map_cons, List.map_nil] at hy
    rw [List.mem_singleton.mp hy] at z
    exact hq ((show x = q from z) ▸ hx)⟩
theorem LW_app {L0 L1 : List (Nat × va_E)} {h : AH} (hd : ∀ q ∈ L1.map Prod.fst, q ∉ L0.map Prod.fst) : LW L1 (LW L0 h) = LW (L0 ++ L1) h := by
  funext b
  unfold LW
  rw [List.find?_append]
  cases f : L1.find? (fun q => q.1 == b) with
  | none => cases L0.find? (fun q => q.1 == b) <;> simp
  | some q =>
    have hb : q.1 = b := by simpa using List.find?_some f
    have h0 : L0.find? (fun q => q.1 == b) = none := List.find?_eq_none.mpr (fun z hz e => hd b (List.mem_map.mpr ⟨q, List.mem_of_find?_eq_some f, hb⟩) (List.mem_map.mpr ⟨z, hz, by simpa using e⟩))
    rw [h0]
    rfl
theorem nmem_app {q : Nat} {L M : List Nat} (h1 : q ∉ L) (h2 : q ∉ M) : q ∉ L ++ M := fun h => (List.mem_append.mp h).elim h1 h2
theorem zfm1 {p : Nat → Prop} {a : Nat} (h : p a) : ∀ q ∈ [a], p q := fun q hq => by rw [List.mem_singleton.mp hq]; exact h
theorem zfmc {p : Nat → Prop} {a : Nat} {L : List Nat} (h : p a) (h2 : ∀ q ∈ L, p q) : ∀ q ∈ a :: L, p q := List.forall_mem_cons.mpr ⟨h, h2⟩
theorem ct_fillL {l : Launch} {E : Ev} {P : Value → AH → Prop} {L : List (Nat × va_E)} {d N : Nat} {f : Nat → Int32} {v : Int32} {h : AH} (i : Nat) (A : lA L) (hi : L[i]? = some (d, .inl (E.2.2 1, N, .inl f))) (hN : N ≤ 10000) (hp : P .null (LW (L.set i (d, .inl (E.2.2 1, N, .inl (flf f v N)))) h)) : Mt l E yJ7_fill_53178 cJ7_fill_53178 4 none 0 0 0 0 [.ref d, .int v] (LW L h) P :=
  ct_fillA (LW_at A i hi) hN (by rw [LW_put A i hi]; exact hp)
theorem dX4_init_0 : decode cX4_init 0 = .ok (.aload_n 0, 1) := by decide +kernel
theorem dX4_init_1 : decode cX4_init 1 = .ok (.invokespecial 3, 3) := by decide +kernel
theorem dX4_init_4 : decode cX4_init 4 = .ok (.aload_n 0, 1) := by decide +kernel
theorem dX4_init_5 : decode cX4_init 5 = .ok (.new 9, 3) := by decide +kernel
theorem dX4_init_8 : decode cX4_init 8 = .ok (.dup, 1) := by decide +kernel
theorem dX4_init_9 : decode cX4_init 9 = .ok (.invokespecial 11, 3) := by decide +kernel
theorem dX4_init_12 : decode cX4_init 12 = .ok (.putfield 12, 3) := by decide +kernel
theorem dX4_init_15 : decode cX4_init 15 = .ok (.aload_n 0, 1) := by decide +kernel
theorem dX4_init_16 : decode cX4_init 16 = .ok (.bipush 6, 2) := by decide +kernel
theorem dX4_init_18 : decode cX4_init 18 = .ok (.newarray .int, 2) := by decide +kernel
theorem dX4_init_20 : decode cX4_init 20 = .ok (.putfield 18, 3) := by decide +kernel
theorem dX4_init_23 : decode cX4_init 23 = .ok (.aload_n 0, 1) := by decide +kernel
theorem dX4_init_24 : decode cX4_init 24 = .ok (.new 22, 3) := by decide +kernel
theorem dX4_init_27 : decode cX4_init 27 = .ok (.dup, 1) := by decide +kernel
theorem dX4_init_28 : decode cX4_init 28 = .ok (.invokespecial 24, 3) := by decide +kernel
theorem dX4_init_31 : decode cX4_init 31 = .ok (.putfield 25, 3) := by decide +kernel
theorem dX4_init_34 : decode cX4_init 34 = .ok (.aload_n 0, 1) := by decide +kernel
theorem dX4_init_35 : decode cX4_init 35 = .ok (.iconst 0, 1) := by decide +kernel
theorem dX4_init_36 : decode cX4_init 36 = .ok (.putfield 29, 3) := by decide +kernel
theorem dX4_init_39 : decode cX4_init 39 = .ok (.aload_n 0, 1) := by decide +kernel
theorem dX4_init_40 : decode cX4_init 40 = .ok (.iconst 0, 1) := by decide +kernel
theorem dX4_init_41 : decode cX4_init 41 = .ok (.putfield 33, 3) := by decide +kernel
theorem dX4_init_44 : decode cX4_init 44 = .ok (.return_, 1) := by decide +kernel
set_option maxHeartbeats 400000 in
set_option maxRecDepth 20000 in
theorem cc_marketInit {l : Launch} {E : Ev} {P : Value → AH → Prop}  {k : Nat} {h : AH} (hp : ∀ al hd9 ag u, lA [(k, dE), (al, dE), (hd9, dE), (ag, dE), (u, dE)] → h al = none → h hd9 = none → h ag = none → h u = none → P .null (LW [(k, (.inr (4, [.ref al, .ref hd9, .ref ag, .int 0, .int 0]))), (al, (.inr (0, [.int 0, .ref (E.2.2 10), .int 0]))), (hd9, .inl (E.2.2 1, 6, .inl (fun _ => 0))), (ag, .inr (1, [.ref u, .int 0, .int 0])), (u, .inl (E.2.2 1, 6, .inl (fun _ => 0)))] h)) : Mt l E yX4_init cX4_init 1 none 4 80 4 18 [.ref k] (LW [(k, (.inr (4, [.null, .null, .null, .int 0, .int 0])))] h) P := by
  refine Mt.of (by decide) (Nat.le_of_ble_eq_true rfl) ?_
  intro K hK hR C
  have A0 : lA [(k, ((.inr (4, [.null, .null, .null, .int 0, .int 0])) : va_E))] := lA_one _ _
  refine g_aload_n (n := 1) C dX4_init_0 rfl rfl ?_
  refine g_objInit (n := 4) C dX4_init_1 rfl w_170 w_72 w_73 (roomF hR rfl) (roomL hR rfl) ?_
  refine g_aload_n (n := 5) C dX4_init_4 rfl rfl ?_
  refine g_new (n := 8) (ci := 0) (T := TJx4a65c) (fs := [.int 0, .null, .int 0]) (ty0 := tyJx4a65c) C dX4_init_5 rfl rfl inJx4a65c w_171 w_95 w_39 tyJx4a65c_ok (by decide) (roomC hR rfl) (roomS hR rfl) ?_
  intro al hqal heal
  have znal := LW_none hqal
  rw [← LW_one]
  refine g_dup (n := 9) C dX4_init_8 rfl rfl ?_
  refine g_callI (n := 12) (As := []) C dX4_init_9 rfl mw_Jx4a65c_init_da8c8 w_172 rfl rfl (room hR rfl) (ct_alInit ?_)
  rw [LW_app (by exact (zfm1 znal.1))]
  dsimp only [List.cons_append, List.nil_append]
  have Bal : lA [(k, dE), (al, dE)] := lA_snoc (L := [(k, dE)]) dE (by exact A0) znal.1
  refine l_putF (n := 15) (T := TX4) (ty0 := tyX4) C 0 0 dX4_init_12 rfl Bal rfl rfl (by decide) inX4 w_189 rfl tyX4_ok nmX4 rfl rfl rfl rfl rfl rfl (by show 0 < 5; decide) ?_
  dsimp only [List.set]
  refine g_aload_n (n := 16) C dX4_init_15 rfl rfl ?_
  refine g_bipush (n := 18) (v := 6) C dX4_init_16 rfl (by decide) ?_
  refine g_newa (n := 20) C 1 (N := 6) (a0 := (6, .inl (fun _ => 0))) dX4_init_18 rfl rfl rfl (fun _ h => h) w_142 (fun _ => rfl) (by decide) (by decide) (by decide) (roomC hR rfl) (roomS hR rfl) ?_
  intro hd9 zfhd9 zehd9
  have Ahd9 := lA_new (e := .inl (E.2.2 1, 6, .inl (fun _ => 0))) (by exact Bal) zfhd9
  have znhd9 := LW_none zfhd9
  rw [LW_new zfhd9]
  dsimp only [List.cons_append, List.nil_append] at Ahd9 ⊢
  refine l_putF (n := 23) (T := TX4) (ty0 := tyX4) C 0 1 dX4_init_20 rfl Ahd9 rfl rfl (by decide) inX4 w_190 rfl tyX4_ok nmX4 rfl rfl rfl rfl rfl rfl (by show 1 < 5; decide) ?_
  dsimp only [List.set]
  refine g_aload_n (n := 24) C dX4_init_23 rfl rfl ?_
  refine g_new (n := 27) (ci := 1) (T := TX0) (fs := [.null, .int 0, .int 0]) (ty0 := tyX0) C dX4_init_24 rfl rfl inX0 w_173 w_174 w_44 tyX0_ok (by decide) (roomC hR rfl) (roomS hR rfl) ?_
  intro ag hqag heag
  have znag := LW_none hqag
  rw [← LW_one]
  refine g_dup (n := 28) C dX4_init_27 rfl rfl ?_
  refine g_callIN (n := 31) (As := []) C dX4_init_28 rfl mw_X0_init t_175 rfl rfl (room hR rfl) (cc_agrInit (fun u hnu hfu => ?_))
  have zmu := LW_none hfu
  rw [LW_app (by exact (zfmc znag.1 (zfm1 zmu.1)))]
  dsimp only [List.cons_append, List.nil_append]
  have Bag : lA [(k, dE), (al, dE), (hd9, dE), (ag, dE)] := lA_snoc (L := [(k, dE), (al, dE), (hd9, dE)]) dE (by exact Ahd9) znag.1
  have Bu : lA [(k, dE), (al, dE), (hd9, dE), (ag, dE), (u, dE)] := lA_snoc (L := [(k, dE), (al, dE), (hd9, dE), (ag, dE)]) dE Bag (nmem_app (by exact zmu.1) hnu)
  refine l_put (n := 34) (T := TX4) (ty0 := tyX4) C 0 2 dX4_init_31 rfl Bu rfl rfl (by decide) inX4 w_191 rfl tyX4_ok nmX4 rfl rfl rfl rfl (by show 2 < 5; decide) ?_
  dsimp only [List.set]
  refine g_aload_n (n := 35) C dX4_init_34 rfl rfl ?_
  refine g_iconst (n := 36) (v := 0) C dX4_init_35 rfl (by decide) ?_
  refine l_put (n := 39) (T := TX4) (ty0 := tyX4) C 0 3 dX4_init_36 rfl Bu rfl rfl (by decide) inX4 w_192 rfl tyX4_ok nmX4 rfl rfl rfl rfl (by show 3 < 5; decide) ?_
  dsimp only [List.set]
  refine g_aload_n (n := 40) C dX4_init_39 rfl rfl ?_
  refine g_iconst (n := 41) (v := 0) C dX4_init_40 rfl (by decide) ?_
  refine l_put (n := 44) (T := TX4) (ty0 := tyX4) C 0 4 dX4_init_41 rfl Bu rfl rfl (by decide) inX4 w_193 rfl tyX4_ok nmX4 rfl rfl rfl rfl (by show 4 < 5; decide) ?_
  dsimp only [List.set]
  refine g_vret C dX4_init_44 (by decide) (by decide) ?_
  exact hp al hd9 ag u Bu znal.2 znhd9.2 znag.2 zmu.2
theorem dX2_init_0 : decode cX2_init 0 = .ok (.aload_n 0, 1) := by decide +kernel
theorem dX2_init_1 : decode cX2_init 1 = .ok (.invokespecial 3, 3) := by decide +kernel
theorem dX2_init_4 : decode cX2_init 4 = .ok (.aload_n 0, 1) := by decide +kernel
theorem dX2_init_5 : decode cX2_init 5 = .ok (.new 9, 3) := by decide +kernel
theorem dX2_init_8 : decode cX2_init 8 = .ok (.dup, 1) := by decide +kernel
theorem dX2_init_9 : decode cX2_init 9 = .ok (.invokespecial 11, 3) := by decide +kernel
theorem dX2_init_12 : decode cX2_init 12 = .ok (.putfield 12, 3) := by decide +kernel
theorem dX2_init_15 : decode cX2_init 15 = .ok (.aload_n 0, 1) := by decide +kernel
theorem dX2_init_16 : decode cX2_init 16 = .ok (.bipush 96, 2) := by decide +kernel
theorem dX2_init_18 : decode cX2_init 18 = .ok (.newarray .int, 2) := by decide +kernel
theorem dX2_init_20 : decode cX2_init 20 = .ok (.putfield 18, 3) := by decide +kernel
theorem dX2_init_23 : decode cX2_init 23 = .ok (.aload_n 0, 1) := by decide +kernel
theorem dX2_init_24 : decode cX2_init 24 = .ok (.bipush 96, 2) := by decide +kernel
theorem dX2_init_26 : decode cX2_init 26 = .ok (.newarray .int, 2) := by decide +kernel
theorem dX2_init_28 : decode cX2_init 28 = .ok (.putfield 22, 3) := by decide +kernel
theorem dX2_init_31 : decode cX2_init 31 = .ok (.aload_n 0, 1) := by decide +kernel
theorem dX2_init_32 : decode cX2_init 32 = .ok (.new 25, 3) := by decide +kernel
theorem dX2_init_35 : decode cX2_init 35 = .ok (.dup, 1) := by decide +kernel
theorem dX2_init_36 : decode cX2_init 36 = .ok (.invokespecial 27, 3) := by decide +kernel
theorem dX2_init_39 : decode cX2_init 39 = .ok (.putfield 28, 3) := by decide +kernel
theorem dX2_init_42 : decode cX2_init 42 = .ok (.aload_n 0, 1) := by decide +kernel
theorem dX2_init_43 : decode cX2_init 43 = .ok (.bipush 20, 2) := by decide +kernel
theorem dX2_init_45 : decode cX2_init 45 = .ok (.putfield 32, 3) := by decide +kernel
theorem dX2_init_48 : decode cX2_init 48 = .ok (.aload_n 0, 1) := by decide +kernel
theorem dX2_init_49 : decode cX2_init 49 = .ok (.iconst 0, 1) := by decide +kernel
theorem dX2_init_50 : decode cX2_init 50 = .ok (.putfield 36, 3) := by decide +kernel
theorem dX2_init_53 : decode cX2_init 53 = .ok (.aload_n 0, 1) := by decide +kernel
theorem dX2_init_54 : decode cX2_init 54 = .ok (.getfield 22, 3) := by decide +kernel
theorem dX2_init_57 : decode cX2_init 57 = .ok (.bipush 100, 2) := by decide +kernel
theorem dX2_init_59 : decode cX2_init 59 = .ok (.invokestatic 39, 3) := by decide +kernel
theorem dX2_init_62 : decode cX2_init 62 = .ok (.return_, 1) := by decide +kernel
set_option maxHeartbeats 400000 in
set_option maxRecDepth 20000 in
theorem cc_groundInit {l : Launch} {E : Ev} {P : Value → AH → Prop}  {k : Nat} {h : AH} (hp : ∀ al le gr lw, lA [(k, dE), (al, dE), (le, dE), (gr, dE), (lw, dE)] → h al = none → h le = none → h gr = none → h lw = none → P .null (LW [(k, (.inr (2, [.ref al, .ref le, .ref gr, .ref lw, .int 20, .int 0]))), (al, (.inr (0, [.int 0, .ref (E.2.2 10), .int 0]))), (le, .inl (E.2.2 1, 96, .inl (fun _ => 0))), (gr, .inl (E.2.2 1, 96, .inl (flf (fun _ => 0) 100 96))), (lw, .inr (3, [.int 0, .int 1000, .int 0]))] h)) : Mt l E yX2_init cX2_init 1 none 4 80 4 198 [.ref k] (LW [(k, (.inr (2, [.null, .null, .null, .null, .int 0, .int 0])))] h) P := by
  refine Mt.of (by decide) (Nat.le_of_ble_eq_true rfl) ?_
  intro K hK hR C
  have A0 : lA [(k, ((.inr (2, [.null, .null, .null, .null, .int 0, .int 0])) : va_E))] := lA_one _ _
  refine g_aload_n (n := 1) C dX2_init_0 rfl rfl ?_
  refine g_objInit (n := 4) C dX2_init_1 rfl w_93 w_72 w_73 (roomF hR rfl) (roomL hR rfl) ?_
  refine g_aload_n (n := 5) C dX2_init_4 rfl rfl ?_
  refine g_new (n := 8) (ci := 0) (T := TJx4a65c) (fs := [.int 0, .null, .int 0]) (ty0 := tyJx4a65c) C dX2_init_5 rfl rfl inJx4a65c w_94 w_95 w_39 tyJx4a65c_ok (by decide) (roomC hR rfl) (roomS hR rfl) ?_
  intro al hqal heal
  have znal := LW_none hqal
  rw [← LW_one]
  refine g_dup (n := 9) C dX2_init_8 rfl rfl ?_
  refine g_callI (n := 12) (As := []) C dX2_init_9 rfl mw_Jx4a65c_init_da8c8 w_96 rfl rfl (room hR rfl) (ct_alInit ?_)
  rw [LW_app (by exact (zfm1 znal.1))]
  dsimp only [List.cons_append, List.nil_append]
  have Bal : lA [(k, dE), (al, dE)] := lA_snoc (L := [(k, dE)]) dE (by exact A0) znal.1
  refine l_putF (n := 15) (T := TX2) (ty0 := tyX2) C 0 0 dX2_init_12 rfl Bal rfl rfl (by decide) inX2 w_146 rfl tyX2_ok nmX2 rfl rfl rfl rfl rfl rfl (by show 0 < 6; decide) ?_
  dsimp only [List.set]
  refine g_aload_n (n := 16) C dX2_init_15 rfl rfl ?_
  refine g_bipush (n := 18) (v := 96) C dX2_init_16 rfl (by decide) ?_
  refine g_newa (n := 20) C 1 (N := 96) (a0 := (96, .inl (fun _ => 0))) dX2_init_18 rfl rfl rfl (fun _ h => h) w_142 (fun _ => rfl) (by decide) (by decide) (by decide) (roomC hR rfl) (roomS hR rfl) ?_
  intro le zfle zele
  have Ale := lA_new (e := .inl (E.2.2 1, 96, .inl (fun _ => 0))) (by exact Bal) zfle
  have znle := LW_none zfle
  rw [LW_new zfle]
  dsimp only [List.cons_append, List.nil_append] at Ale ⊢
  refine l_putF (n := 23) (T := TX2) (ty0 := tyX2) C 0 1 dX2_init_20 rfl Ale rfl rfl (by decide) inX2 w_147 rfl tyX2_ok nmX2 rfl rfl rfl rfl rfl rfl (by show 1 < 6; decide) ?_
  dsimp only [List.set]
  refine g_aload_n (n := 24) C dX2_init_23 rfl rfl ?_
  refine g_bipush (n := 26) (v := 96) C dX2_init_24 rfl (by decide) ?_
  refine g_newa (n := 28) C 1 (N := 96) (a0 := (96, .inl (fun _ => 0))) dX2_init_26 rfl rfl rfl (fun _ h => h) w_142 (fun _ => rfl) (by decide) (by decide) (by decide) (roomC hR rfl) (roomS hR rfl) ?_
  intro gr zfgr zegr
  have Agr := lA_new (e := .inl (E.2.2 1, 96, .inl (fun _ => 0))) (by exact Ale) zfgr
  have zngr := LW_none zfgr
  rw [LW_new zfgr]
  dsimp only [List.cons_append, List.nil_append] at Agr ⊢
  refine l_putF (n := 31) (T := TX2) (ty0 := tyX2) C 0 2 dX2_init_28 rfl Agr rfl rfl (by decide) inX2 w_148 rfl tyX2_ok nmX2 rfl rfl rfl rfl rfl rfl (by show 2 < 6; decide) ?_
  dsimp only [List.set]
  refine g_aload_n (n := 32) C dX2_init_31 rfl rfl ?_
  refine g_new (n := 35) (ci := 3) (T := TX3) (fs := [.int 0, .int 0, .int 0]) (ty0 := tyX3) C dX2_init_32 rfl rfl inX3 w_120 w_121 w_41 tyX3_ok (by decide) (roomC hR rfl) (roomS hR rfl) ?_
  intro lw hqlw helw
  have znlw := LW_none hqlw
  rw [← LW_one]
  refine g_dup (n := 36) C dX2_init_35 rfl rfl ?_
  refine g_callIN (n := 39) (As := []) C dX2_init_36 rfl mw_X3_init t_122 rfl rfl (room hR rfl) (cc_lawInit ?_)
  rw [LW_app (by exact (zfm1 znlw.1))]
  dsimp only [List.cons_append, List.nil_append]
  have Blw : lA [(k, dE), (al, dE), (le, dE), (gr, dE), (lw, dE)] := lA_snoc (L := [(k, dE), (al, dE), (le, dE), (gr, dE)]) dE (by exact Agr) znlw.1
  refine l_put (n := 42) (T := TX2) (ty0 := tyX2) C 0 3 dX2_init_39 rfl Blw rfl rfl (by decide) inX2 w_149 rfl tyX2_ok nmX2 rfl rfl rfl rfl (by show 3 < 6; decide) ?_
  dsimp only [List.set]
  refine g_aload_n (n := 43) C dX2_init_42 rfl rfl ?_
  refine g_bipush (n := 45) (v := 20) C dX2_init_43 rfl (by decide) ?_
  refine l_put (n := 48) (T := TX2) (ty0 := tyX2) C 0 4 dX2_init_45 rfl Blw rfl rfl (by decide) inX2 w_150 rfl tyX2_ok nmX2 rfl rfl rfl rfl (by show 4 < 6; decide) ?_
  dsimp only [List.set]
  refine g_aload_n (n := 49) C dX2_init_48 rfl rfl ?_
  refine g_iconst (n := 50) (v := 0) C dX2_init_49 rfl (by decide) ?_
  refine l_put (n := 53) (T := TX2) (ty0 := tyX2) C 0 5 dX2_init_50 rfl Blw rfl rfl (by decide) inX2 w_151 rfl tyX2_ok nmX2 rfl rfl rfl rfl (by show 5 < 6; decide) ?_
  dsimp only [List.set]
  refine g_aload_n (n := 54) C dX2_init_53 rfl rfl ?_
  refine l_get (n := 57) (T := TX2) C 0 2 dX2_init_54 rfl Blw rfl rfl rfl (by decide) inX2 w_148 rfl ?_
  refine g_bipush (n := 59) (v := 100) C dX2_init_57 rfl (by decide) ?_
  refine g_callS (n := 62) (As := [.ref gr, .int 100]) C dX2_init_59 rfl mw_J7_fill_53178 w_143 rfl rfl (room hR rfl) (ct_fillL 3 (by exact Blw) rfl (by decide) ?_)
  dsimp only [List.set]
  refine g_vret C dX2_init_62 (by decide) (by decide) ?_
  exact hp al le gr lw Blw znal.2 znle.2 zngr.2 znlw.2
theorem isO8 {h : AH} {q : Nat} {vs : List Value} (he : h q = some (.inr (8, vs))) : isO h q := ⟨8, vs, _, he, rfl, t_1417⟩
theorem isO5 {h : AH} {q : Nat} {vs : List Value} (he : h q = some (.inr (5, vs))) : isO h q := ⟨5, vs, _, he, rfl, t_1414⟩
theorem alF_up {E : Ev} {h : AH} {L : List (Nat × va_E)} {d n N : Nat} {f : Nat → Option Nat} (hL : ∀ q ∈ L.map Prod.fst, h q = none) (hl : alF E h d n N f) : alF E (LW L h) d n N f := by
  have hn : ∀ {b : Nat} {e : va_E}, h b = some e → b ∉ L.map Prod.fst := fun hb hm => by
    rw [hL _ hm] at hb
    cases hb
  refine ⟨hl.1.imp id (fun q => ⟨q.1, (LW_nb (hn q.2)).trans q.2⟩), hl.2.1, hl.2.2.1, fun i y hi hf => ?_⟩
  obtain ⟨ci, vs, r, h1, h2, h3⟩ := hl.2.2.2 i y hi hf
  exact ⟨ci, vs, r, (LW_nb (hn h1)).trans h1, h2, h3⟩
