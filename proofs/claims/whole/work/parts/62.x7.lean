theorem dX10_most_0 : decode cX10_most 0 = .ok (.aload_n 0, 1) := by decide +kernel
theorem dX10_most_1 : decode cX10_most 1 = .ok (.getfield 33, 3) := by decide +kernel
theorem dX10_most_4 : decode cX10_most 4 = .ok (.invokevirtual 258, 3) := by decide +kernel
theorem dX10_most_7 : decode cX10_most 7 = .ok (.ireturn, 1) := by decide +kernel
set_option maxHeartbeats 2000000 in
set_option maxRecDepth 20000 in
theorem cw_most {l : Launch} {E : Ev} {P : Value → AH → Prop}  {x o ou n m : Nat} {F : Nat → Int32} {A : Nat → Nat → Int32} {Fm : Nat → Int32} {Am : Nat → Nat → Int32} {h : AH} (I9 : WI E x o ou F A n m Fm Am h)  (k : ∀ W H, F 26 = nI W → F 27 = nI H → 1 ≤ W → W ≤ 10 → 1 ≤ H → H ≤ 8 → ∀ h1, WI E x o ou (upd F 0 0) A n m Fm Am h1 → P (.int (rT (A 28) 0 0 (W - 1) (H - 1)).1) h1) : Mt l E yX10_most cX10_most 1 (some .int) 6 139 0 0 [.ref x] (h) P := by
  refine Mt.of (by decide) (Nat.le_of_ble_eq_true rfl) ?_
  intro K hK hR C
  obtain ⟨ad, R, z, N, f, O, W, X, rfl, rfl, rfl⟩ := I9
  have hx : h (ad 0 0) = some (.inr (10, [.ref (ad 1 0), .ref (ad 3 0), .ref (ad 10 0), .ref (ad 20 0), .int (F 19)])) := W.at 0 0 rfl
  have hgm : h (ad 20 0) = some (.inr (7, [.ref (ad 21 0), .ref (ad 22 0), .ref (ad 23 0), .ref (ad 24 0), .int (F 26), .int (F 27), .int (z 2)])) := W.at 20 0 rfl
  have hfl : h (ad 21 0) = some (.inl (E.2.2 2, 80, .inl (A 28))) := W.at 21 0 rfl
  have hcl : h (ad 22 0) = some (.inl (E.2.2 2, 1980, .inl (R 22 0))) := W.at 22 0 rfl
  have hwo : h (ad 23 0) = some (.inl (E.2.2 1, 1980, .inl (R 23 0))) := W.at 23 0 rfl
  have hfe : h (ad 24 0) = some (.inl (E.2.2 1, 1980, .inl (R 24 0))) := W.at 24 0 rfl
  obtain ⟨wd9, ht9, hw, hh, hw1, hw10, hh1, hh8, hz01, hdn⟩ := X.2.2.2.2.2.2.2.2.2.2.2.1
  rw [hw, hh] at hgm
  refine g_aload_n (n := 1) C dX10_most_0 rfl rfl ?_
  refine g_get (n := 4) (T := TX10) C 3 dX10_most_1 rfl hx rfl rfl (by decide) inX10 w_237 rfl ?_
  refine g_callV (n := 7) (As := []) C dX10_most_4 rfl mw_X7_greatestWorth w_330 (g_recv C hgm rfl) rfl rfl (room hR rfl) (cc_worth hgm hcl hwo hfe hfl (lA_three (List.not_mem_cons_of_ne_of_not_mem (W.ne (c := 22) (i := 0) (d := 23) (j := 0) rfl rfl (fun q _ => absurd q (by decide))) (List.not_mem_cons_of_ne_of_not_mem (W.ne (c := 22) (i := 0) (d := 24) (j := 0) rfl rfl (fun q _ => absurd q (by decide))) List.not_mem_nil)) (W.ne (c := 23) (i := 0) (d := 24) (j := 0) rfl rfl (fun q _ => absurd q (by decide)))) (List.not_mem_cons_of_ne_of_not_mem (W.ne (c := 20) (i := 0) (d := 22) (j := 0) rfl rfl (fun q _ => absurd q (by decide))) (List.not_mem_cons_of_ne_of_not_mem (W.ne (c := 20) (i := 0) (d := 23) (j := 0) rfl rfl (fun q _ => absurd q (by decide))) (List.not_mem_cons_of_ne_of_not_mem (W.ne (c := 20) (i := 0) (d := 24) (j := 0) rfl rfl (fun q _ => absurd q (by decide))) List.not_mem_nil))) (List.not_mem_cons_of_ne_of_not_mem (W.ne (c := 21) (i := 0) (d := 22) (j := 0) rfl rfl (fun q _ => absurd q (by decide))) (List.not_mem_cons_of_ne_of_not_mem (W.ne (c := 21) (i := 0) (d := 23) (j := 0) rfl rfl (fun q _ => absurd q (by decide))) (List.not_mem_cons_of_ne_of_not_mem (W.ne (c := 21) (i := 0) (d := 24) (j := 0) rfl rfl (fun q _ => absurd q (by decide))) List.not_mem_nil))) hw10 hh8 hdn hw1 hh1 (fun za => ?_) (fun zb C1 W1 F1 zd => ?_))
  · --k4.0
    refine g_iret C dX10_most_7 (by decide) (by decide) ?_
    exact k wd9 ht9 hw hh hw1 hw10 hh1 hh8 _ ⟨ad, R, z, N, f, O, (W).cast rfl, ⟨X.1, X.2.1, X.2.2.1, X.2.2.2.1, X.2.2.2.2.1, X.2.2.2.2.2.1, X.2.2.2.2.2.2.1, X.2.2.2.2.2.2.2.1, X.2.2.2.2.2.2.2.2.1, X.2.2.2.2.2.2.2.2.2.1, X.2.2.2.2.2.2.2.2.2.2.1, X.2.2.2.2.2.2.2.2.2.2.2.1, X.2.2.2.2.2.2.2.2.2.2.2.2.1, X.2.2.2.2.2.2.2.2.2.2.2.2.2⟩, rfl, rfl, rfl⟩
  · --k4.1
    refine g_iret C dX10_most_7 (by decide) (by decide) ?_
    rw [LW_cons, LW_cons, LW_cons, LW_nil]
    dsimp only
    have Wz := (((W.one 20 (.inr (7, [.ref (ad 21 0), .ref (ad 22 0), .ref (ad 23 0), .ref (ad 24 0), .int (F 26), .int (F 27), .int 1])) rfl).one 24 (.inl (E.2.2 1, 1980, .inl F1)) rfl).one 23 (.inl (E.2.2 1, 1980, .inl W1)) rfl).one 22 (.inl (E.2.2 2, 1980, .inl C1)) rfl
    rw [hw, hh] at Wz
    exact k wd9 ht9 hw hh hw1 hw10 hh1 hh8 _ ⟨ad, (rset (rset (rset R 22 0 C1) 23 0 W1) 24 0 F1), nset z 2 1, N, f, O, Wz.cast (by rw [← hw, ← hh]; rfl), ⟨X.1, X.2.1, X.2.2.1, X.2.2.2.1, X.2.2.2.2.1, X.2.2.2.2.2.1, X.2.2.2.2.2.2.1, X.2.2.2.2.2.2.2.1, X.2.2.2.2.2.2.2.2.1, X.2.2.2.2.2.2.2.2.2.1, X.2.2.2.2.2.2.2.2.2.2.1, ⟨wd9, ht9, hw, hh, hw1, hw10, hh1, hh8, Or.inr rfl, fun _ => zd⟩, X.2.2.2.2.2.2.2.2.2.2.2.2.1, X.2.2.2.2.2.2.2.2.2.2.2.2.2⟩, rfl, rfl, rfl⟩
theorem dX10_cuts_0 : decode cX10_cuts 0 = .ok (.aload_n 0, 1) := by decide +kernel
theorem dX10_cuts_1 : decode cX10_cuts 1 = .ok (.getfield 33, 3) := by decide +kernel
theorem dX10_cuts_4 : decode cX10_cuts 4 = .ok (.invokevirtual 261, 3) := by decide +kernel
theorem dX10_cuts_7 : decode cX10_cuts 7 = .ok (.ireturn, 1) := by decide +kernel
set_option maxHeartbeats 2000000 in
set_option maxRecDepth 20000 in
theorem cw_cuts {l : Launch} {E : Ev} {P : Value → AH → Prop}  {x o ou n m : Nat} {F : Nat → Int32} {A : Nat → Nat → Int32} {Fm : Nat → Int32} {Am : Nat → Nat → Int32} {h : AH} (I9 : WI E x o ou F A n m Fm Am h)  (k : ∀ W H, F 26 = nI W → F 27 = nI H → 1 ≤ W → W ≤ 10 → 1 ≤ H → H ≤ 8 → ∀ h1, WI E x o ou (upd F 0 0) A n m Fm Am h1 → P (.int (rT (A 28) 0 0 (W - 1) (H - 1)).2) h1) : Mt l E yX10_cuts cX10_cuts 1 (some .int) 6 139 0 0 [.ref x] (h) P := by
  refine Mt.of (by decide) (Nat.le_of_ble_eq_true rfl) ?_
  intro K hK hR C
  obtain ⟨ad, R, z, N, f, O, W, X, rfl, rfl, rfl⟩ := I9
  have hx : h (ad 0 0) = some (.inr (10, [.ref (ad 1 0), .ref (ad 3 0), .ref (ad 10 0), .ref (ad 20 0), .int (F 19)])) := W.at 0 0 rfl
  have hgm : h (ad 20 0) = some (.inr (7, [.ref (ad 21 0), .ref (ad 22 0), .ref (ad 23 0), .ref (ad 24 0), .int (F 26), .int (F 27), .int (z 2)])) := W.at 20 0 rfl
  have hfl : h (ad 21 0) = some (.inl (E.2.2 2, 80, .inl (A 28))) := W.at 21 0 rfl
  have hcl : h (ad 22 0) = some (.inl (E.2.2 2, 1980, .inl (R 22 0))) := W.at 22 0 rfl
  have hwo : h (ad 23 0) = some (.inl (E.2.2 1, 1980, .inl (R 23 0))) := W.at 23 0 rfl
  have hfe : h (ad 24 0) = some (.inl (E.2.2 1, 1980, .inl (R 24 0))) := W.at 24 0 rfl
  obtain ⟨wd9, ht9, hw, hh, hw1, hw10, hh1, hh8, hz01, hdn⟩ := X.2.2.2.2.2.2.2.2.2.2.2.1
  rw [hw, hh] at hgm
  refine g_aload_n (n := 1) C dX10_cuts_0 rfl rfl ?_
  refine g_get (n := 4) (T := TX10) C 3 dX10_cuts_1 rfl hx rfl rfl (by decide) inX10 w_237 rfl ?_
  refine g_callV (n := 7) (As := []) C dX10_cuts_4 rfl mw_X7_fewestCuts w_360 (g_recv C hgm rfl) rfl rfl (room hR rfl) (cc_few hgm hcl hwo hfe hfl (lA_three (List.not_mem_cons_of_ne_of_not_mem (W.ne (c := 22) (i := 0) (d := 23) (j := 0) rfl rfl (fun q _ => absurd q (by decide))) (List.not_mem_cons_of_ne_of_not_mem (W.ne (c := 22) (i := 0) (d := 24) (j := 0) rfl rfl (fun q _ => absurd q (by decide))) List.not_mem_nil)) (W.ne (c := 23) (i := 0) (d := 24) (j := 0) rfl rfl (fun q _ => absurd q (by decide)))) (List.not_mem_cons_of_ne_of_not_mem (W.ne (c := 20) (i := 0) (d := 22) (j := 0) rfl rfl (fun q _ => absurd q (by decide))) (List.not_mem_cons_of_ne_of_not_mem (W.ne (c := 20) (i := 0) (d := 23) (j := 0) rfl rfl (fun q _ => absurd q (by decide))) (List.not_mem_cons_of_ne_of_not_mem (W.ne (c := 20) (i := 0) (d := 24) (j := 0) rfl rfl (fun q _ => absurd q (by decide))) List.not_mem_nil))) (List.not_mem_cons_of_ne_of_not_mem (W.ne (c := 21) (i := 0) (d := 22) (j := 0) rfl rfl (fun q _ => absurd q (by decide))) (List.not_mem_cons_of_ne_of_not_mem (W.ne (c := 21) (i := 0) (d := 23) (j := 0) rfl rfl (fun q _ => absurd q (by decide))) (List.not_mem_cons_of_ne_of_not_mem (W.ne (c := 21) (i := 0) (d := 24) (j := 0) rfl rfl (fun q _ => absurd q (by decide))) List.not_mem_nil))) hw10 hh8 hdn hw1 hh1 (fun za => ?_) (fun zb C1 W1 F1 zd => ?_))
  · --k4.0
    refine g_iret C dX10_cuts_7 (by decide) (by decide) ?_
    exact k wd9 ht9 hw hh hw1 hw10 hh1 hh8 _ ⟨ad, R, z, N, f, O, (W).cast rfl, ⟨X.1, X.2.1, X.2.2.1, X.2.2.2.1, X.2.2.2.2.1, X.2.2.2.2.2.1, X.2.2.2.2.2.2.1, X.2.2.2.2.2.2.2.1, X.2.2.2.2.2.2.2.2.1, X.2.2.2.2.2.2.2.2.2.1, X.2.2.2.2.2.2.2.2.2.2.1, X.2.2.2.2.2.2.2.2.2.2.2.1, X.2.2.2.2.2.2.2.2.2.2.2.2.1, X.2.2.2.2.2.2.2.2.2.2.2.2.2⟩, rfl, rfl, rfl⟩
  · --k4.1
    refine g_iret C dX10_cuts_7 (by decide) (by decide) ?_
    rw [LW_cons, LW_cons, LW_cons, LW_nil]
    dsimp only
    have Wz := (((W.one 20 (.inr (7, [.ref (ad 21 0), .ref (ad 22 0), .ref (ad 23 0), .ref (ad 24 0), .int (F 26), .int (F 27), .int 1])) rfl).one 24 (.inl (E.2.2 1, 1980, .inl F1)) rfl).one 23 (.inl (E.2.2 1, 1980, .inl W1)) rfl).one 22 (.inl (E.2.2 2, 1980, .inl C1)) rfl
    rw [hw, hh] at Wz
    exact k wd9 ht9 hw hh hw1 hw10 hh1 hh8 _ ⟨ad, (rset (rset (rset R 22 0 C1) 23 0 W1) 24 0 F1), nset z 2 1, N, f, O, Wz.cast (by rw [← hw, ← hh]; rfl), ⟨X.1, X.2.1, X.2.2.1, X.2.2.2.1, X.2.2.2.2.1, X.2.2.2.2.2.1, X.2.2.2.2.2.2.1, X.2.2.2.2.2.2.2.1, X.2.2.2.2.2.2.2.2.1, X.2.2.2.2.2.2.2.2.2.1, X.2.2.2.2.2.2.2.2.2.2.1, ⟨wd9, ht9, hw, hh, hw1, hw10, hh1, hh8, Or.inr rfl, fun _ => zd⟩, X.2.2.2.2.2.2.2.2.2.2.2.2.1, X.2.2.2.2.2.2.2.2.2.2.2.2.2⟩, rfl, rfl, rfl⟩
theorem dX10_count_0 : decode cX10_count 0 = .ok (.iload_n 1, 1) := by decide +kernel
theorem dX10_count_1 : decode cX10_count 1 = .ok (.tableswitch 202 0 14 #[75, 83, 91, 99, 107, 115, 123, 132, 141, 150, 159, 168, 177, 186, 194], 75) := by decide +kernel
theorem dX10_count_76 : decode cX10_count 76 = .ok (.aload_n 0, 1) := by decide +kernel
theorem dX10_count_77 : decode cX10_count 77 = .ok (.getfield 19, 3) := by decide +kernel
theorem dX10_count_80 : decode cX10_count 80 = .ok (.invokevirtual 123, 3) := by decide +kernel
theorem dX10_count_83 : decode cX10_count 83 = .ok (.ireturn, 1) := by decide +kernel
theorem dX10_count_84 : decode cX10_count 84 = .ok (.aload_n 0, 1) := by decide +kernel
theorem dX10_count_85 : decode cX10_count 85 = .ok (.getfield 19, 3) := by decide +kernel
theorem dX10_count_88 : decode cX10_count 88 = .ok (.invokevirtual 98, 3) := by decide +kernel
theorem dX10_count_91 : decode cX10_count 91 = .ok (.ireturn, 1) := by decide +kernel
theorem dX10_count_92 : decode cX10_count 92 = .ok (.aload_n 0, 1) := by decide +kernel
theorem dX10_count_93 : decode cX10_count 93 = .ok (.getfield 19, 3) := by decide +kernel
theorem dX10_count_96 : decode cX10_count 96 = .ok (.invokevirtual 264, 3) := by decide +kernel
theorem dX10_count_99 : decode cX10_count 99 = .ok (.ireturn, 1) := by decide +kernel
theorem dX10_count_100 : decode cX10_count 100 = .ok (.aload_n 0, 1) := by decide +kernel
theorem dX10_count_101 : decode cX10_count 101 = .ok (.getfield 26, 3) := by decide +kernel
theorem dX10_count_104 : decode cX10_count 104 = .ok (.invokevirtual 178, 3) := by decide +kernel
theorem dX10_count_107 : decode cX10_count 107 = .ok (.ireturn, 1) := by decide +kernel
theorem dX10_count_108 : decode cX10_count 108 = .ok (.aload_n 0, 1) := by decide +kernel
theorem dX10_count_109 : decode cX10_count 109 = .ok (.getfield 26, 3) := by decide +kernel
theorem dX10_count_112 : decode cX10_count 112 = .ok (.invokevirtual 267, 3) := by decide +kernel
theorem dX10_count_115 : decode cX10_count 115 = .ok (.ireturn, 1) := by decide +kernel
theorem dX10_count_116 : decode cX10_count 116 = .ok (.aload_n 0, 1) := by decide +kernel
theorem dX10_count_117 : decode cX10_count 117 = .ok (.getfield 26, 3) := by decide +kernel
theorem dX10_count_120 : decode cX10_count 120 = .ok (.invokevirtual 188, 3) := by decide +kernel
theorem dX10_count_123 : decode cX10_count 123 = .ok (.ireturn, 1) := by decide +kernel
theorem dX10_count_124 : decode cX10_count 124 = .ok (.aload_n 0, 1) := by decide +kernel
theorem dX10_count_125 : decode cX10_count 125 = .ok (.getfield 26, 3) := by decide +kernel
theorem dX10_count_128 : decode cX10_count 128 = .ok (.iconst 1, 1) := by decide +kernel
theorem dX10_count_129 : decode cX10_count 129 = .ok (.invokevirtual 270, 3) := by decide +kernel
theorem dX10_count_132 : decode cX10_count 132 = .ok (.ireturn, 1) := by decide +kernel
theorem dX10_count_133 : decode cX10_count 133 = .ok (.aload_n 0, 1) := by decide +kernel
theorem dX10_count_134 : decode cX10_count 134 = .ok (.getfield 26, 3) := by decide +kernel
theorem dX10_count_137 : decode cX10_count 137 = .ok (.iconst 2, 1) := by decide +kernel
theorem dX10_count_138 : decode cX10_count 138 = .ok (.invokevirtual 270, 3) := by decide +kernel
theorem dX10_count_141 : decode cX10_count 141 = .ok (.ireturn, 1) := by decide +kernel
theorem dX10_count_142 : decode cX10_count 142 = .ok (.aload_n 0, 1) := by decide +kernel
theorem dX10_count_143 : decode cX10_count 143 = .ok (.getfield 26, 3) := by decide +kernel
theorem dX10_count_146 : decode cX10_count 146 = .ok (.iconst 3, 1) := by decide +kernel
theorem dX10_count_147 : decode cX10_count 147 = .ok (.invokevirtual 270, 3) := by decide +kernel
theorem dX10_count_150 : decode cX10_count 150 = .ok (.ireturn, 1) := by decide +kernel
theorem dX10_count_151 : decode cX10_count 151 = .ok (.aload_n 0, 1) := by decide +kernel
theorem dX10_count_152 : decode cX10_count 152 = .ok (.getfield 26, 3) := by decide +kernel
theorem dX10_count_155 : decode cX10_count 155 = .ok (.iconst 4, 1) := by decide +kernel
theorem dX10_count_156 : decode cX10_count 156 = .ok (.invokevirtual 270, 3) := by decide +kernel
theorem dX10_count_159 : decode cX10_count 159 = .ok (.ireturn, 1) := by decide +kernel
theorem dX10_count_160 : decode cX10_count 160 = .ok (.aload_n 0, 1) := by decide +kernel
theorem dX10_count_161 : decode cX10_count 161 = .ok (.getfield 26, 3) := by decide +kernel
theorem dX10_count_164 : decode cX10_count 164 = .ok (.iconst 5, 1) := by decide +kernel
theorem dX10_count_165 : decode cX10_count 165 = .ok (.invokevirtual 270, 3) := by decide +kernel
theorem dX10_count_168 : decode cX10_count 168 = .ok (.ireturn, 1) := by decide +kernel
theorem dX10_count_169 : decode cX10_count 169 = .ok (.aload_n 0, 1) := by decide +kernel
theorem dX10_count_170 : decode cX10_count 170 = .ok (.getfield 19, 3) := by decide +kernel
theorem dX10_count_173 : decode cX10_count 173 = .ok (.iconst 1, 1) := by decide +kernel
theorem dX10_count_174 : decode cX10_count 174 = .ok (.invokevirtual 273, 3) := by decide +kernel
theorem dX10_count_177 : decode cX10_count 177 = .ok (.ireturn, 1) := by decide +kernel
theorem dX10_count_178 : decode cX10_count 178 = .ok (.aload_n 0, 1) := by decide +kernel
theorem dX10_count_179 : decode cX10_count 179 = .ok (.getfield 19, 3) := by decide +kernel
theorem dX10_count_182 : decode cX10_count 182 = .ok (.iconst 2, 1) := by decide +kernel
theorem dX10_count_183 : decode cX10_count 183 = .ok (.invokevirtual 273, 3) := by decide +kernel
theorem dX10_count_186 : decode cX10_count 186 = .ok (.ireturn, 1) := by decide +kernel
theorem dX10_count_187 : decode cX10_count 187 = .ok (.aload_n 0, 1) := by decide +kernel
theorem dX10_count_188 : decode cX10_count 188 = .ok (.getfield 19, 3) := by decide +kernel
theorem dX10_count_191 : decode cX10_count 191 = .ok (.invokevirtual 276, 3) := by decide +kernel
theorem dX10_count_194 : decode cX10_count 194 = .ok (.ireturn, 1) := by decide +kernel
theorem dX10_count_195 : decode cX10_count 195 = .ok (.aload_n 0, 1) := by decide +kernel
theorem dX10_count_196 : decode cX10_count 196 = .ok (.getfield 19, 3) := by decide +kernel
theorem dX10_count_199 : decode cX10_count 199 = .ok (.invokevirtual 279, 3) := by decide +kernel
theorem dX10_count_202 : decode cX10_count 202 = .ok (.ireturn, 1) := by decide +kernel
theorem dX10_count_203 : decode cX10_count 203 = .ok (.iconst (-1), 1) := by decide +kernel
theorem dX10_count_204 : decode cX10_count 204 = .ok (.ireturn, 1) := by decide +kernel
set_option maxHeartbeats 4000000 in
set_option maxRecDepth 20000 in
theorem cw_count {l : Launch} {E : Ev} {P : Value → AH → Prop}  {x o ou n m : Nat} {F : Nat → Int32} {A : Nat → Nat → Int32} {Fm : Nat → Int32} {Am : Nat → Nat → Int32} {h : AH} (I9 : WI E x o ou F A n m Fm Am h) {w : Int32} (k0 : w = 0 → P (.int (F 1)) h) (k1 : w = 1 → P (.int (F 9)) h) (k2 : w = 2 → P (.int (rcnt (fun p => A 6 p < 0) n)) h) (k3 : w = 3 → P (.int (F 23)) h) (k4 : w = 4 → P (.int (rcnt (fun j => ¬ A 21 (10 * j + 2) < 0) m)) h) (k5 : w = 5 → P (.int (F 24)) h) (k6 : w = 6 → P (.int (A 25 1)) h) (k7 : w = 7 → P (.int (A 25 2)) h) (k8 : w = 8 → P (.int (A 25 3)) h) (k9 : w = 9 → P (.int (A 25 4)) h) (k10 : w = 10 → P (.int (A 25 5)) h) (k11 : w = 11 → P (.int (rsum (fun p => rbond F A p = w - 10) (A 8) n)) h) (k12 : w = 12 → P (.int (rsum (fun p => rbond F A p = w - 10) (A 8) n)) h) (k13 : w = 13 → P (.int (rcnt (fun s => rlow (F 2) A (nI s) n = rhigh (F 2) A (nI s) n) 96)) h) (k14 : w = 14 → P (.int (rcnt (fun s => rhigh (F 2) A (nI s) n < rlow (F 2) A (nI s) n) 96)) h) (k15 : ¬ w = 0 → ¬ w = 1 → ¬ w = 2 → ¬ w = 3 → ¬ w = 4 → ¬ w = 5 → ¬ w = 6 → ¬ w = 7 → ¬ w = 8 → ¬ w = 9 → ¬ w = 10 → ¬ w = 11 → ¬ w = 12 → ¬ w = 13 → ¬ w = 14 → P (.int (-1)) h) : Mt l E yX10_count cX10_count 2 (some .int) 4 88 0 0 [.ref x, .int w] (h) P := by
  refine Mt.of (by decide) (Nat.le_of_ble_eq_true rfl) ?_
  intro K hK hR C
  obtain ⟨ad, R, z, N, f, O, W, X, rfl, rfl, rfl⟩ := I9
  have hx : h (ad 0 0) = some (.inr (10, [.ref (ad 1 0), .ref (ad 3 0), .ref (ad 10 0), .ref (ad 20 0), .int (F 19)])) := W.at 0 0 rfl
  have hk : h (ad 3 0) = some (.inr (2, [.ref (ad 4 0), .ref (ad 6 0), .ref (ad 7 0), .ref (ad 8 0), .int (F 2), .int (F 1)])) := W.at 3 0 rfl
  have he : h (ad 4 0) = some (.inr (0, [.int (z 0), .ref (ad 5 0), .int (nI n)])) := W.at 4 0 rfl
  have hl : h (ad 6 0) = some (.inl (E.2.2 1, 96, .inl (R 6 0))) := W.at 6 0 rfl
  have hg : h (ad 7 0) = some (.inl (E.2.2 1, 96, .inl (R 7 0))) := W.at 7 0 rfl
  have hmk : h (ad 10 0) = some (.inr (4, [.ref (ad 11 0), .ref (ad 13 0), .ref (ad 14 0), .int (F 24), .int (z 3)])) := W.at 10 0 rfl
  have he2 : h (ad 11 0) = some (.inr (0, [.int (z 1), .ref (ad 12 0), .int (nI m)])) := W.at 11 0 rfl
  have hhd : h (ad 13 0) = some (.inl (E.2.2 1, 6, .inl (R 13 0))) := W.at 13 0 rfl
  obtain ⟨hd, hnN, hN, hpa, hal⟩ := w_list W X
  refine g_iload_n (n := 1) C dX10_count_0 rfl rfl ?_
  refine g_case (v := 0) (fun zc1_0 => ?_) (fun zc1_0 => ?_)
  · --case 0
    refine g_tableIn (t := 76) C dX10_count_1 (by decide) (by decide) (by rfl) (by decide) ?_
    refine g_aload_n (n := 77) C dX10_count_76 rfl rfl ?_
    refine g_get (n := 80) (T := TX10) C 1 dX10_count_77 rfl hx rfl rfl (by decide) inX10 w_235 rfl ?_
    refine g_callV (n := 83) (As := []) C dX10_count_80 rfl mw_X2_today w_368 (g_recv C hk rfl) rfl rfl (room hR rfl) (cc_gtoday hk ?_)
    refine g_iret C dX10_count_83 (by decide) (by decide) ?_
    exact k0 zc1_0
  refine g_case (v := 1) (fun zc1_1 => ?_) (fun zc1_1 => ?_)
  · --case 1
    refine g_tableIn (t := 84) C dX10_count_1 (by decide) (by decide) (by rfl) (by decide) ?_
    refine g_aload_n (n := 85) C dX10_count_84 rfl rfl ?_
    refine g_get (n := 88) (T := TX10) C 1 dX10_count_85 rfl hx rfl rfl (by decide) inX10 w_235 rfl ?_
    refine g_callV (n := 91) (As := []) C dX10_count_88 rfl mw_X2_pits w_372 (g_recv C hk rfl) rfl rfl (room hR rfl) (cc_gpits hk he ?_)
    refine g_iret C dX10_count_91 (by decide) (by decide) ?_
    rw [← X.1.1]
    exact k1 zc1_1
  refine g_case (v := 2) (fun zc1_2 => ?_) (fun zc1_2 => ?_)
  · --case 2
    refine g_tableIn (t := 92) C dX10_count_1 (by decide) (by decide) (by rfl) (by decide) ?_
    refine g_aload_n (n := 93) C dX10_count_92 rfl rfl ?_
    refine g_get (n := 96) (T := TX10) C 1 dX10_count_93 rfl hx rfl rfl (by decide) inX10 w_235 rfl ?_
    refine g_callV (n := 99) (As := []) C dX10_count_96 rfl mw_X2_openPits w_376 (g_recv C hk rfl) rfl rfl (room hR rfl) (cc_gopen hk he hd hnN hN hpa ?_)
    refine g_iret C dX10_count_99 (by decide) (by decide) ?_
    rw [rcnt_c (q := fun p => A 6 p < 0) n (fun i hi => (m1_or (X.2.2.2.2.2.2.2.2.2.2.2.2.1 i hi).2).symm)]
    exact k2 zc1_2
  refine g_case (v := 3) (fun zc1_3 => ?_) (fun zc1_3 => ?_)
  · --case 3
    refine g_tableIn (t := 100) C dX10_count_1 (by decide) (by decide) (by rfl) (by decide) ?_
    refine g_aload_n (n := 101) C dX10_count_100 rfl rfl ?_
    refine g_get (n := 104) (T := TX10) C 2 dX10_count_101 rfl hx rfl rfl (by decide) inX10 w_236 rfl ?_
    refine g_callV (n := 107) (As := []) C dX10_count_104 rfl mw_X4_stones w_380 (g_recv C hmk rfl) rfl rfl (room hR rfl) (cc_mstones hmk he2 ?_)
    refine g_iret C dX10_count_107 (by decide) (by decide) ?_
    rw [← X.1.2.2.1]
    exact k3 zc1_3
  refine g_case (v := 4) (fun zc1_4 => ?_) (fun zc1_4 => ?_)
  · --case 4
    refine g_tableIn (t := 108) C dX10_count_1 (by decide) (by decide) (by rfl) (by decide) ?_
    refine g_aload_n (n := 109) C dX10_count_108 rfl rfl ?_
    refine g_get (n := 112) (T := TX10) C 2 dX10_count_109 rfl hx rfl rfl (by decide) inX10 w_236 rfl ?_
    refine g_callV (n := 115) (As := []) C dX10_count_112 rfl mw_X4_sold w_385 (g_recv C hmk rfl) rfl rfl (room hR rfl) (cc_msold hmk ?_)
    refine g_iret C dX10_count_115 (by decide) (by decide) ?_
    rw [X.2.2.2.2.2.2.2.2.2.2.1.1]
    exact k4 zc1_4
  refine g_case (v := 5) (fun zc1_5 => ?_) (fun zc1_5 => ?_)
  · --case 5
    refine g_tableIn (t := 116) C dX10_count_1 (by decide) (by decide) (by rfl) (by decide) ?_
    refine g_aload_n (n := 117) C dX10_count_116 rfl rfl ?_
    refine g_get (n := 120) (T := TX10) C 2 dX10_count_117 rfl hx rfl rfl (by decide) inX10 w_236 rfl ?_
    refine g_callV (n := 123) (As := []) C dX10_count_120 rfl mw_X4_costs w_389 (g_recv C hmk rfl) rfl rfl (room hR rfl) (cc_mcosts hmk ?_)
    refine g_iret C dX10_count_123 (by decide) (by decide) ?_
    exact k5 zc1_5
  refine g_case (v := 6) (fun zc1_6 => ?_) (fun zc1_6 => ?_)
  · --case 6
    refine g_tableIn (t := 124) C dX10_count_1 (by decide) (by decide) (by rfl) (by decide) ?_
    refine g_aload_n (n := 125) C dX10_count_124 rfl rfl ?_
    refine g_get (n := 128) (T := TX10) C 2 dX10_count_125 rfl hx rfl rfl (by decide) inX10 w_236 rfl ?_
    refine g_iconst (n := 129) (v := 1) C dX10_count_128 rfl (by decide) ?_
    refine g_callV (n := 132) (As := [.int _]) C dX10_count_129 rfl mw_X4_hadBy w_393 (g_recv C hmk rfl) rfl rfl (room hR rfl) (cc_mhad hmk hhd (j := 1) (by decide) ?_)
    refine g_iret C dX10_count_132 (by decide) (by decide) ?_
    rw [X.2.2.2.2.2.2.1 1 (by decide) (by decide)]
    exact k6 zc1_6
  refine g_case (v := 7) (fun zc1_7 => ?_) (fun zc1_7 => ?_)
  · --case 7
    refine g_tableIn (t := 133) C dX10_count_1 (by decide) (by decide) (by rfl) (by decide) ?_
    refine g_aload_n (n := 134) C dX10_count_133 rfl rfl ?_
    refine g_get (n := 137) (T := TX10) C 2 dX10_count_134 rfl hx rfl rfl (by decide) inX10 w_236 rfl ?_
    refine g_iconst (n := 138) (v := 2) C dX10_count_137 rfl (by decide) ?_
    refine g_callV (n := 141) (As := [.int _]) C dX10_count_138 rfl mw_X4_hadBy w_393 (g_recv C hmk rfl) rfl rfl (room hR rfl) (cc_mhad hmk hhd (j := 2) (by decide) ?_)
    refine g_iret C dX10_count_141 (by decide) (by decide) ?_
    rw [X.2.2.2.2.2.2.1 2 (by decide) (by decide)]
    exact k7 zc1_7
  refine g_case (v := 8) (fun zc1_8 => ?_) (fun zc1_8 => ?_)
  · --case 8
    refine g_tableIn (t := 142) C dX10_count_1 (by decide) (by decide) (by rfl) (by decide) ?_
    refine g_aload_n (n := 143) C dX10_count_142 rfl rfl ?_
    refine g_get (n := 146) (T := TX10) C 2 dX10_count_143 rfl hx rfl rfl (by decide) inX10 w_236 rfl ?_
    refine g_iconst (n := 147) (v := 3) C dX10_count_146 rfl (by decide) ?_
    refine g_callV (n := 150) (As := [.int _]) C dX10_count_147 rfl mw_X4_hadBy w_393 (g_recv C hmk rfl) rfl rfl (room hR rfl) (cc_mhad hmk hhd (j := 3) (by decide) ?_)
    refine g_iret C dX10_count_150 (by decide) (by decide) ?_
    rw [X.2.2.2.2.2.2.1 3 (by decide) (by decide)]
    exact k8 zc1_8
  refine g_case (v := 9) (fun zc1_9 => ?_) (fun zc1_9 => ?_)
  · --case 9
    refine g_tableIn (t := 151) C dX10_count_1 (by decide) (by decide) (by rfl) (by decide) ?_
    refine g_aload_n (n := 152) C dX10_count_151 rfl rfl ?_
    refine g_get (n := 155) (T := TX10) C 2 dX10_count_152 rfl hx rfl rfl (by decide) inX10 w_236 rfl ?_
    refine g_iconst (n := 156) (v := 4) C dX10_count_155 rfl (by decide) ?_
    refine g_callV (n := 159) (As := [.int _]) C dX10_count_156 rfl mw_X4_hadBy w_393 (g_recv C hmk rfl) rfl rfl (room hR rfl) (cc_mhad hmk hhd (j := 4) (by decide) ?_)
    refine g_iret C dX10_count_159 (by decide) (by decide) ?_
    rw [X.2.2.2.2.2.2.1 4 (by decide) (by decide)]
    exact k9 zc1_9
  refine g_case (v := 10) (fun zc1_10 => ?_) (fun zc1_10 => ?_)
  · --case 10
    refine g_tableIn (t := 160) C dX10_count_1 (by decide) (by decide) (by rfl) (by decide) ?_
    refine g_aload_n (n := 161) C dX10_count_160 rfl rfl ?_
    refine g_get (n := 164) (T := TX10) C 2 dX10_count_161 rfl hx rfl rfl (by decide) inX10 w_236 rfl ?_
    refine g_iconst (n := 165) (v := 5) C dX10_count_164 rfl (by decide) ?_
    refine g_callV (n := 168) (As := [.int _]) C dX10_count_165 rfl mw_X4_hadBy w_393 (g_recv C hmk rfl) rfl rfl (room hR rfl) (cc_mhad hmk hhd (j := 5) (by decide) ?_)
    refine g_iret C dX10_count_168 (by decide) (by decide) ?_
    rw [X.2.2.2.2.2.2.1 5 (by decide) (by decide)]
    exact k10 zc1_10
  refine g_case (v := 11) (fun zc1_11 => ?_) (fun zc1_11 => ?_)
  · --case 11
    refine g_tableIn (t := 169) C dX10_count_1 (by decide) (by decide) (by rfl) (by decide) ?_
    refine g_aload_n (n := 170) C dX10_count_169 rfl rfl ?_
    refine g_get (n := 173) (T := TX10) C 1 dX10_count_170 rfl hx rfl rfl (by decide) inX10 w_235 rfl ?_
    refine g_iconst (n := 174) (v := 1) C dX10_count_173 rfl (by decide) ?_
    refine g_callV (n := 177) (As := [.int _]) C dX10_count_174 rfl mw_X2_bonds w_397 (g_recv C hk rfl) rfl rfl (room hR rfl) (cc_gbonds hk he hd hnN hN hpa ?_)
    refine g_iret C dX10_count_177 (by decide) (by decide) ?_
    have h9 := k11 zc1_11
    rw [zc1_11] at h9
    rw [rsum_c (q := fun p => rbond F A p = 11 - 10) n (fun i hi => by rw [bond_r (X.2.2.2.2.2.2.2.2.2.2.2.2.1 i hi).2]; exact Iff.rfl)]
    exact h9
  refine g_case (v := 12) (fun zc1_12 => ?_) (fun zc1_12 => ?_)
  · --case 12
    refine g_tableIn (t := 178) C dX10_count_1 (by decide) (by decide) (by rfl) (by decide) ?_
    refine g_aload_n (n := 179) C dX10_count_178 rfl rfl ?_
    refine g_get (n := 182) (T := TX10) C 1 dX10_count_179 rfl hx rfl rfl (by decide) inX10 w_235 rfl ?_
    refine g_iconst (n := 183) (v := 2) C dX10_count_182 rfl (by decide) ?_
    refine g_callV (n := 186) (As := [.int _]) C dX10_count_183 rfl mw_X2_bonds w_397 (g_recv C hk rfl) rfl rfl (room hR rfl) (cc_gbonds hk he hd hnN hN hpa ?_)
    refine g_iret C dX10_count_186 (by decide) (by decide) ?_
    have h9 := k12 zc1_12
    rw [zc1_12] at h9
    rw [rsum_c (q := fun p => rbond F A p = 12 - 10) n (fun i hi => by rw [bond_r (X.2.2.2.2.2.2.2.2.2.2.2.2.1 i hi).2]; exact Iff.rfl)]
    exact h9
  refine g_case (v := 13) (fun zc1_13 => ?_) (fun zc1_13 => ?_)
  · --case 13
    refine g_tableIn (t := 187) C dX10_count_1 (by decide) (by decide) (by rfl) (by decide) ?_
    refine g_aload_n (n := 188) C dX10_count_187 rfl rfl ?_
    refine g_get (n := 191) (T := TX10) C 1 dX10_count_188 rfl hx rfl rfl (by decide) inX10 w_235 rfl ?_
    refine g_callV (n := 194) (As := []) C dX10_count_191 rfl mw_X2_squaresOfOneAmount w_406 (g_recv C hk rfl) rfl rfl (room hR rfl) (cc_gone hk hl hg ?_)
    refine g_iret C dX10_count_194 (by decide) (by decide) ?_
    rw [rcnt_c (q := fun s => rlow (F 2) A (nI s) n = rhigh (F 2) A (nI s) n) 96 (fun i hi => by rw [(X.2.2.2.1 i hi).1, (X.2.2.2.1 i hi).2])]
    exact k13 zc1_13
  refine g_case (v := 14) (fun zc1_14 => ?_) (fun zc1_14 => ?_)
  · --case 14
    refine g_tableIn (t := 195) C dX10_count_1 (by decide) (by decide) (by rfl) (by decide) ?_
    refine g_aload_n (n := 196) C dX10_count_195 rfl rfl ?_
    refine g_get (n := 199) (T := TX10) C 1 dX10_count_196 rfl hx rfl rfl (by decide) inX10 w_235 rfl ?_
    refine g_callV (n := 202) (As := []) C dX10_count_199 rfl mw_X2_squaresWithoutSpan w_410 (g_recv C hk rfl) rfl rfl (room hR rfl) (cc_gnone hk hl hg ?_)
    refine g_iret C dX10_count_202 (by decide) (by decide) ?_
    rw [rcnt_c (q := fun s => rhigh (F 2) A (nI s) n < rlow (F 2) A (nI s) n) 96 (fun i hi => by rw [(X.2.2.2.1 i hi).1, (X.2.2.2.1 i hi).2, Int32.not_le])]
    exact k14 zc1_14
  refine g_tableOut (t := 203) C dX10_count_1 (by first | exact g_tout15 zc1_0 zc1_1 zc1_2 zc1_3 zc1_4 zc1_5 zc1_6 zc1_7 zc1_8 zc1_9 zc1_10 zc1_11 zc1_12 zc1_13 zc1_14) (by decide) ?_
  refine g_iconst (n := 204) (v := (-1)) C dX10_count_203 rfl (by decide) ?_
  refine g_iret C dX10_count_204 (by decide) (by decide) ?_
  exact k15 zc1_0 zc1_1 zc1_2 zc1_3 zc1_4 zc1_5 zc1_6 zc1_7 zc1_8 zc1_9 zc1_10 zc1_11 zc1_12 zc1_13 zc1_14
