theorem n_pred {x : Int32} {n : Nat} (hx : x = nI n) (h : 1 ≤ n) : x - 1 = nI (n - 1) := by
  rw [hx]
  exact pk_sub (b := 1) h
/-- how many of the first n places have p -/
noncomputable def rcnt (p : Nat → Prop) : Nat → Int32
  | 0 => 0
  | n + 1 => rcnt p n + @ite _ (p n) (Classical.propDecidable _) 1 0
theorem rcnt_1 {p : Nat → Prop} {n : Nat} (h : p n) : rcnt p n + 1 = rcnt p (n + 1) := by
  conv => rhs; unfold rcnt
  rw [if_pos h]
theorem rcnt_0 {p : Nat → Prop} {n : Nat} (h : ¬ p n) : rcnt p n + 0 = rcnt p (n + 1) := by
  conv => rhs; unfold rcnt
  rw [if_neg h]
noncomputable def rsum (p : Nat → Prop) (v : Nat → Int32) : Nat → Int32
  | 0 => 0
  | n + 1 => rsum p v n + @ite _ (p n) (Classical.propDecidable _) (v n) 0
theorem rsum_1 {p : Nat → Prop} {v : Nat → Int32} {n : Nat} (h : p n) : rsum p v n + v n = rsum p v (n + 1) := by
  conv => rhs; unfold rsum
  rw [if_pos h]
theorem rsum_0 {p : Nat → Prop} {v : Nat → Int32} {n : Nat} (h : ¬ p n) : rsum p v n + 0 = rsum p v (n + 1) := by
  conv => rhs; unfold rsum
  rw [if_neg h]
theorem dX11_most_0 : decode cX11_most 0 = .ok (.aload_n 0, 1) := by decide +kernel
theorem dX11_most_1 : decode cX11_most 1 = .ok (.iconst 0, 1) := by decide +kernel
theorem dX11_most_2 : decode cX11_most 2 = .ok (.putfield 76, 3) := by decide +kernel
theorem dX11_most_5 : decode cX11_most 5 = .ok (.aload_n 0, 1) := by decide +kernel
theorem dX11_most_6 : decode cX11_most 6 = .ok (.invokevirtual 229, 3) := by decide +kernel
theorem dX11_most_9 : decode cX11_most 9 = .ok (.aload_n 0, 1) := by decide +kernel
theorem dX11_most_10 : decode cX11_most 10 = .ok (.getfield 70, 3) := by decide +kernel
theorem dX11_most_13 : decode cX11_most 13 = .ok (.iconst 0, 1) := by decide +kernel
theorem dX11_most_14 : decode cX11_most 14 = .ok (.iconst 0, 1) := by decide +kernel
theorem dX11_most_15 : decode cX11_most 15 = .ok (.aload_n 0, 1) := by decide +kernel
theorem dX11_most_16 : decode cX11_most 16 = .ok (.getfield 60, 3) := by decide +kernel
theorem dX11_most_19 : decode cX11_most 19 = .ok (.iconst 1, 1) := by decide +kernel
theorem dX11_most_20 : decode cX11_most 20 = .ok (.isub, 1) := by decide +kernel
theorem dX11_most_21 : decode cX11_most 21 = .ok (.aload_n 0, 1) := by decide +kernel
theorem dX11_most_22 : decode cX11_most 22 = .ok (.getfield 63, 3) := by decide +kernel
theorem dX11_most_25 : decode cX11_most 25 = .ok (.iconst 1, 1) := by decide +kernel
theorem dX11_most_26 : decode cX11_most 26 = .ok (.isub, 1) := by decide +kernel
theorem dX11_most_27 : decode cX11_most 27 = .ok (.invokestatic 217, 3) := by decide +kernel
theorem dX11_most_30 : decode cX11_most 30 = .ok (.iaload, 1) := by decide +kernel
theorem dX11_most_31 : decode cX11_most 31 = .ok (.ireturn, 1) := by decide +kernel
set_option maxHeartbeats 400000 in
set_option maxRecDepth 20000 in
theorem ct_most {l : Launch} {E : Ev} {P : Value → AH → Prop} {o : Nat} {ad : Nat → Nat} {F : Nat → Int32} {A : Nat → Nat → Int32} {h : AH} (I : mI o ad) {W H : Nat} (hw : F 26 = nI W) (hh : F 27 = nI H) (hW : W ≤ 10) (hH : H ≤ 8) (hW1 : 1 ≤ W) (hH1 : 1 ≤ H) (hp : ∀ B, wkeep A B → P (.int (rT (A 28) 0 0 (W - 1) (H - 1)).1) (mh E o ad (upd F 0 0) B h)) : Mt l E yX11_most cX11_most 1 (some .int) 7 159 0 0 [.ref o] (mh E o ad F A h) P := by
  refine Mt.of (by decide) (Nat.le_of_ble_eq_true rfl) ?_
  intro K hK hR C
  refine g_aload_n (n := 1) C dX11_most_0 rfl rfl ?_
  refine g_iconst (n := 2) (v := 0) C dX11_most_1 rfl (by decide) ?_
  refine m_put (n := 5) 0 C dX11_most_2 rfl (by decide) w_1100 rfl rfl rfl mfs_0 ?_
  refine g_aload_n (n := 6) C dX11_most_5 rfl rfl ?_
  refine g_callV (n := 9) (As := []) C dX11_most_6 rfl mw_X11_weighs w_1375 (g_recv C mh_o rfl) rfl rfl (room hR rfl) (ct_weighs I (show upd F 0 0 26 = nI W from hw) (show upd F 0 0 27 = nI H from hh) hW hH (fun B kB dB => ?_))
  refine g_aload_n (n := 10) C dX11_most_9 rfl rfl ?_
  refine m_get (n := 13) 29 C dX11_most_10 rfl (by decide) rfl w_1129 rfl ?_
  refine g_iconst (n := 14) (v := 0) C dX11_most_13 rfl (by decide) ?_
  refine g_iconst (n := 15) (v := 0) C dX11_most_14 rfl (by decide) ?_
  refine g_aload_n (n := 16) C dX11_most_15 rfl rfl ?_
  refine m_get (n := 19) 26 C dX11_most_16 rfl (by decide) rfl w_1126 rfl ?_
  refine g_iconst (n := 20) (v := 1) C dX11_most_19 rfl (by decide) ?_
  refine g_isub (n := 21) C dX11_most_20 rfl ?_
  refine g_aload_n (n := 22) C dX11_most_21 rfl rfl ?_
  refine m_get (n := 25) 27 C dX11_most_22 rfl (by decide) rfl w_1127 rfl ?_
  refine g_iconst (n := 26) (v := 1) C dX11_most_25 rfl (by decide) ?_
  refine g_isub (n := 27) C dX11_most_26 rfl ?_
  rw [n_pred (show upd F 0 0 26 = nI W from hw) hW1, n_pred (show upd F 0 0 27 = nI H from hh) hH1]
  refine g_callS (n := 30) (As := [.int _, .int _, .int _, .int _]) C dX11_most_27 rfl mw_X11_placeOf w_1379 rfl rfl (room hR rfl) (ct_place ?_)
  rw [show rplace 0 0 (nI (W - 1)) (nI (H - 1)) = nI (npl 0 0 (W - 1) (H - 1)) from rplace_n 0 0 (W - 1) (H - 1)]
  refine m_iald (n := 31) (v := (rT (A 28) 0 0 (W - 1) (H - 1)).1) 29 (npl 0 0 (W - 1) (H - 1)) C dX11_most_30 rfl I (by decide) rfl rfl (npl_lt (by omega) (by omega)) (by decide) ((dB 0 0 (W - 1) (H - 1) (by omega) (by omega) (by unfold lex4; omega)).1) ?_
  refine g_iret C dX11_most_31 (by decide) (by decide) ?_
  exact hp B kB
theorem dX11_cuts_0 : decode cX11_cuts 0 = .ok (.aload_n 0, 1) := by decide +kernel
theorem dX11_cuts_1 : decode cX11_cuts 1 = .ok (.iconst 0, 1) := by decide +kernel
theorem dX11_cuts_2 : decode cX11_cuts 2 = .ok (.putfield 76, 3) := by decide +kernel
theorem dX11_cuts_5 : decode cX11_cuts 5 = .ok (.aload_n 0, 1) := by decide +kernel
theorem dX11_cuts_6 : decode cX11_cuts 6 = .ok (.invokevirtual 229, 3) := by decide +kernel
theorem dX11_cuts_9 : decode cX11_cuts 9 = .ok (.aload_n 0, 1) := by decide +kernel
theorem dX11_cuts_10 : decode cX11_cuts 10 = .ok (.getfield 73, 3) := by decide +kernel
theorem dX11_cuts_13 : decode cX11_cuts 13 = .ok (.iconst 0, 1) := by decide +kernel
theorem dX11_cuts_14 : decode cX11_cuts 14 = .ok (.iconst 0, 1) := by decide +kernel
theorem dX11_cuts_15 : decode cX11_cuts 15 = .ok (.aload_n 0, 1) := by decide +kernel
theorem dX11_cuts_16 : decode cX11_cuts 16 = .ok (.getfield 60, 3) := by decide +kernel
theorem dX11_cuts_19 : decode cX11_cuts 19 = .ok (.iconst 1, 1) := by decide +kernel
theorem dX11_cuts_20 : decode cX11_cuts 20 = .ok (.isub, 1) := by decide +kernel
theorem dX11_cuts_21 : decode cX11_cuts 21 = .ok (.aload_n 0, 1) := by decide +kernel
theorem dX11_cuts_22 : decode cX11_cuts 22 = .ok (.getfield 63, 3) := by decide +kernel
theorem dX11_cuts_25 : decode cX11_cuts 25 = .ok (.iconst 1, 1) := by decide +kernel
theorem dX11_cuts_26 : decode cX11_cuts 26 = .ok (.isub, 1) := by decide +kernel
theorem dX11_cuts_27 : decode cX11_cuts 27 = .ok (.invokestatic 217, 3) := by decide +kernel
theorem dX11_cuts_30 : decode cX11_cuts 30 = .ok (.iaload, 1) := by decide +kernel
theorem dX11_cuts_31 : decode cX11_cuts 31 = .ok (.ireturn, 1) := by decide +kernel
set_option maxHeartbeats 400000 in
set_option maxRecDepth 20000 in
theorem ct_cuts {l : Launch} {E : Ev} {P : Value → AH → Prop} {o : Nat} {ad : Nat → Nat} {F : Nat → Int32} {A : Nat → Nat → Int32} {h : AH} (I : mI o ad) {W H : Nat} (hw : F 26 = nI W) (hh : F 27 = nI H) (hW : W ≤ 10) (hH : H ≤ 8) (hW1 : 1 ≤ W) (hH1 : 1 ≤ H) (hp : ∀ B, wkeep A B → P (.int (rT (A 28) 0 0 (W - 1) (H - 1)).2) (mh E o ad (upd F 0 0) B h)) : Mt l E yX11_cuts cX11_cuts 1 (some .int) 7 159 0 0 [.ref o] (mh E o ad F A h) P := by
  refine Mt.of (by decide) (Nat.le_of_ble_eq_true rfl) ?_
  intro K hK hR C
  refine g_aload_n (n := 1) C dX11_cuts_0 rfl rfl ?_
  refine g_iconst (n := 2) (v := 0) C dX11_cuts_1 rfl (by decide) ?_
  refine m_put (n := 5) 0 C dX11_cuts_2 rfl (by decide) w_1100 rfl rfl rfl mfs_0 ?_
  refine g_aload_n (n := 6) C dX11_cuts_5 rfl rfl ?_
  refine g_callV (n := 9) (As := []) C dX11_cuts_6 rfl mw_X11_weighs w_1375 (g_recv C mh_o rfl) rfl rfl (room hR rfl) (ct_weighs I (show upd F 0 0 26 = nI W from hw) (show upd F 0 0 27 = nI H from hh) hW hH (fun B kB dB => ?_))
  refine g_aload_n (n := 10) C dX11_cuts_9 rfl rfl ?_
  refine m_get (n := 13) 30 C dX11_cuts_10 rfl (by decide) rfl w_1130 rfl ?_
  refine g_iconst (n := 14) (v := 0) C dX11_cuts_13 rfl (by decide) ?_
  refine g_iconst (n := 15) (v := 0) C dX11_cuts_14 rfl (by decide) ?_
  refine g_aload_n (n := 16) C dX11_cuts_15 rfl rfl ?_
  refine m_get (n := 19) 26 C dX11_cuts_16 rfl (by decide) rfl w_1126 rfl ?_
  refine g_iconst (n := 20) (v := 1) C dX11_cuts_19 rfl (by decide) ?_
  refine g_isub (n := 21) C dX11_cuts_20 rfl ?_
  refine g_aload_n (n := 22) C dX11_cuts_21 rfl rfl ?_
  refine m_get (n := 25) 27 C dX11_cuts_22 rfl (by decide) rfl w_1127 rfl ?_
  refine g_iconst (n := 26) (v := 1) C dX11_cuts_25 rfl (by decide) ?_
  refine g_isub (n := 27) C dX11_cuts_26 rfl ?_
  rw [n_pred (show upd F 0 0 26 = nI W from hw) hW1, n_pred (show upd F 0 0 27 = nI H from hh) hH1]
  refine g_callS (n := 30) (As := [.int _, .int _, .int _, .int _]) C dX11_cuts_27 rfl mw_X11_placeOf w_1379 rfl rfl (room hR rfl) (ct_place ?_)
  rw [show rplace 0 0 (nI (W - 1)) (nI (H - 1)) = nI (npl 0 0 (W - 1) (H - 1)) from rplace_n 0 0 (W - 1) (H - 1)]
  refine m_iald (n := 31) (v := (rT (A 28) 0 0 (W - 1) (H - 1)).2) 30 (npl 0 0 (W - 1) (H - 1)) C dX11_cuts_30 rfl I (by decide) rfl rfl (npl_lt (by omega) (by omega)) (by decide) ((dB 0 0 (W - 1) (H - 1) (by omega) (by omega) (by unfold lex4; omega)).2) ?_
  refine g_iret C dX11_cuts_31 (by decide) (by decide) ?_
  exact hp B kB
theorem dX11_count_0 : decode cX11_count 0 = .ok (.aload_n 0, 1) := by decide +kernel
theorem dX11_count_1 : decode cX11_count 1 = .ok (.iconst 0, 1) := by decide +kernel
theorem dX11_count_2 : decode cX11_count 2 = .ok (.putfield 76, 3) := by decide +kernel
theorem dX11_count_5 : decode cX11_count 5 = .ok (.iconst 0, 1) := by decide +kernel
theorem dX11_count_6 : decode cX11_count 6 = .ok (.istore_n 2, 1) := by decide +kernel
theorem dX11_count_7 : decode cX11_count 7 = .ok (.iload_n 1, 1) := by decide +kernel
theorem dX11_count_8 : decode cX11_count 8 = .ok (.tableswitch 287 0 14 #[76, 81, 86, 121, 126, 166, 171, 171, 171, 171, 171, 180, 180, 223, 223], 76) := by decide +kernel
theorem dX11_count_84 : decode cX11_count 84 = .ok (.aload_n 0, 1) := by decide +kernel
theorem dX11_count_85 : decode cX11_count 85 = .ok (.getfield 189, 3) := by decide +kernel
theorem dX11_count_88 : decode cX11_count 88 = .ok (.ireturn, 1) := by decide +kernel
theorem dX11_count_89 : decode cX11_count 89 = .ok (.aload_n 0, 1) := by decide +kernel
theorem dX11_count_90 : decode cX11_count 90 = .ok (.getfield 83, 3) := by decide +kernel
theorem dX11_count_93 : decode cX11_count 93 = .ok (.ireturn, 1) := by decide +kernel
theorem dX11_count_94 : decode cX11_count 94 = .ok (.iconst 0, 1) := by decide +kernel
theorem dX11_count_95 : decode cX11_count 95 = .ok (.istore_n 3, 1) := by decide +kernel
theorem dX11_count_96 : decode cX11_count 96 = .ok (.iload_n 3, 1) := by decide +kernel
theorem dX11_count_97 : decode cX11_count 97 = .ok (.aload_n 0, 1) := by decide +kernel
theorem dX11_count_98 : decode cX11_count 98 = .ok (.getfield 83, 3) := by decide +kernel
theorem dX11_count_101 : decode cX11_count 101 = .ok (.if_icmp .ge 26, 3) := by decide +kernel
theorem dX11_count_104 : decode cX11_count 104 = .ok (.iload_n 2, 1) := by decide +kernel
theorem dX11_count_105 : decode cX11_count 105 = .ok (.aload_n 0, 1) := by decide +kernel
theorem dX11_count_106 : decode cX11_count 106 = .ok (.getfield 23, 3) := by decide +kernel
theorem dX11_count_109 : decode cX11_count 109 = .ok (.iload_n 3, 1) := by decide +kernel
theorem dX11_count_110 : decode cX11_count 110 = .ok (.iaload, 1) := by decide +kernel
theorem dX11_count_111 : decode cX11_count 111 = .ok (.ifCond .ge 7, 3) := by decide +kernel
theorem dX11_count_114 : decode cX11_count 114 = .ok (.iconst 1, 1) := by decide +kernel
theorem dX11_count_115 : decode cX11_count 115 = .ok (.goto 4, 3) := by decide +kernel
theorem dX11_count_118 : decode cX11_count 118 = .ok (.iconst 0, 1) := by decide +kernel
theorem dX11_count_119 : decode cX11_count 119 = .ok (.iadd, 1) := by decide +kernel
theorem dX11_count_120 : decode cX11_count 120 = .ok (.istore_n 2, 1) := by decide +kernel
theorem dX11_count_121 : decode cX11_count 121 = .ok (.iinc 3 1, 3) := by decide +kernel
theorem dX11_count_124 : decode cX11_count 124 = .ok (.goto (-28), 3) := by decide +kernel
theorem dX11_count_127 : decode cX11_count 127 = .ok (.iload_n 2, 1) := by decide +kernel
theorem dX11_count_128 : decode cX11_count 128 = .ok (.ireturn, 1) := by decide +kernel
theorem dX11_count_129 : decode cX11_count 129 = .ok (.aload_n 0, 1) := by decide +kernel
theorem dX11_count_130 : decode cX11_count 130 = .ok (.getfield 86, 3) := by decide +kernel
theorem dX11_count_133 : decode cX11_count 133 = .ok (.ireturn, 1) := by decide +kernel
theorem dX11_count_134 : decode cX11_count 134 = .ok (.iconst 0, 1) := by decide +kernel
theorem dX11_count_135 : decode cX11_count 135 = .ok (.istore_n 3, 1) := by decide +kernel
theorem dX11_count_136 : decode cX11_count 136 = .ok (.iload_n 3, 1) := by decide +kernel
theorem dX11_count_137 : decode cX11_count 137 = .ok (.aload_n 0, 1) := by decide +kernel
theorem dX11_count_138 : decode cX11_count 138 = .ok (.getfield 86, 3) := by decide +kernel
theorem dX11_count_141 : decode cX11_count 141 = .ok (.if_icmp .ge 31, 3) := by decide +kernel
theorem dX11_count_144 : decode cX11_count 144 = .ok (.iload_n 2, 1) := by decide +kernel
theorem dX11_count_145 : decode cX11_count 145 = .ok (.aload_n 0, 1) := by decide +kernel
theorem dX11_count_146 : decode cX11_count 146 = .ok (.getfield 51, 3) := by decide +kernel
theorem dX11_count_149 : decode cX11_count 149 = .ok (.bipush 10, 2) := by decide +kernel
theorem dX11_count_151 : decode cX11_count 151 = .ok (.iload_n 3, 1) := by decide +kernel
theorem dX11_count_152 : decode cX11_count 152 = .ok (.imul, 1) := by decide +kernel
theorem dX11_count_153 : decode cX11_count 153 = .ok (.iconst 2, 1) := by decide +kernel
theorem dX11_count_154 : decode cX11_count 154 = .ok (.iadd, 1) := by decide +kernel
theorem dX11_count_155 : decode cX11_count 155 = .ok (.iaload, 1) := by decide +kernel
theorem dX11_count_156 : decode cX11_count 156 = .ok (.ifCond .lt 7, 3) := by decide +kernel
theorem dX11_count_159 : decode cX11_count 159 = .ok (.iconst 1, 1) := by decide +kernel
theorem dX11_count_160 : decode cX11_count 160 = .ok (.goto 4, 3) := by decide +kernel
theorem dX11_count_163 : decode cX11_count 163 = .ok (.iconst 0, 1) := by decide +kernel
theorem dX11_count_164 : decode cX11_count 164 = .ok (.iadd, 1) := by decide +kernel
theorem dX11_count_165 : decode cX11_count 165 = .ok (.istore_n 2, 1) := by decide +kernel
theorem dX11_count_166 : decode cX11_count 166 = .ok (.iinc 3 1, 3) := by decide +kernel
theorem dX11_count_169 : decode cX11_count 169 = .ok (.goto (-33), 3) := by decide +kernel
theorem dX11_count_172 : decode cX11_count 172 = .ok (.iload_n 2, 1) := by decide +kernel
theorem dX11_count_173 : decode cX11_count 173 = .ok (.ireturn, 1) := by decide +kernel
theorem dX11_count_174 : decode cX11_count 174 = .ok (.aload_n 0, 1) := by decide +kernel
theorem dX11_count_175 : decode cX11_count 175 = .ok (.getfield 206, 3) := by decide +kernel
theorem dX11_count_178 : decode cX11_count 178 = .ok (.ireturn, 1) := by decide +kernel
theorem dX11_count_179 : decode cX11_count 179 = .ok (.aload_n 0, 1) := by decide +kernel
theorem dX11_count_180 : decode cX11_count 180 = .ok (.getfield 57, 3) := by decide +kernel
theorem dX11_count_183 : decode cX11_count 183 = .ok (.iload_n 1, 1) := by decide +kernel
theorem dX11_count_184 : decode cX11_count 184 = .ok (.iconst 5, 1) := by decide +kernel
theorem dX11_count_185 : decode cX11_count 185 = .ok (.isub, 1) := by decide +kernel
theorem dX11_count_186 : decode cX11_count 186 = .ok (.iaload, 1) := by decide +kernel
theorem dX11_count_187 : decode cX11_count 187 = .ok (.ireturn, 1) := by decide +kernel
theorem dX11_count_188 : decode cX11_count 188 = .ok (.iconst 0, 1) := by decide +kernel
theorem dX11_count_189 : decode cX11_count 189 = .ok (.istore_n 3, 1) := by decide +kernel
theorem dX11_count_190 : decode cX11_count 190 = .ok (.iload_n 3, 1) := by decide +kernel
theorem dX11_count_191 : decode cX11_count 191 = .ok (.aload_n 0, 1) := by decide +kernel
theorem dX11_count_192 : decode cX11_count 192 = .ok (.getfield 83, 3) := by decide +kernel
theorem dX11_count_195 : decode cX11_count 195 = .ok (.if_icmp .ge 34, 3) := by decide +kernel
theorem dX11_count_198 : decode cX11_count 198 = .ok (.iload_n 2, 1) := by decide +kernel
theorem dX11_count_199 : decode cX11_count 199 = .ok (.aload_n 0, 1) := by decide +kernel
theorem dX11_count_200 : decode cX11_count 200 = .ok (.iload_n 3, 1) := by decide +kernel
theorem dX11_count_201 : decode cX11_count 201 = .ok (.invokevirtual 203, 3) := by decide +kernel
theorem dX11_count_204 : decode cX11_count 204 = .ok (.iload_n 1, 1) := by decide +kernel
theorem dX11_count_205 : decode cX11_count 205 = .ok (.bipush 10, 2) := by decide +kernel
theorem dX11_count_207 : decode cX11_count 207 = .ok (.isub, 1) := by decide +kernel
theorem dX11_count_208 : decode cX11_count 208 = .ok (.if_icmp .ne 12, 3) := by decide +kernel
theorem dX11_count_211 : decode cX11_count 211 = .ok (.aload_n 0, 1) := by decide +kernel
theorem dX11_count_212 : decode cX11_count 212 = .ok (.getfield 29, 3) := by decide +kernel
theorem dX11_count_215 : decode cX11_count 215 = .ok (.iload_n 3, 1) := by decide +kernel
theorem dX11_count_216 : decode cX11_count 216 = .ok (.iaload, 1) := by decide +kernel
theorem dX11_count_217 : decode cX11_count 217 = .ok (.goto 4, 3) := by decide +kernel
theorem dX11_count_220 : decode cX11_count 220 = .ok (.iconst 0, 1) := by decide +kernel
theorem dX11_count_221 : decode cX11_count 221 = .ok (.iadd, 1) := by decide +kernel
theorem dX11_count_222 : decode cX11_count 222 = .ok (.istore_n 2, 1) := by decide +kernel
theorem dX11_count_223 : decode cX11_count 223 = .ok (.iinc 3 1, 3) := by decide +kernel
theorem dX11_count_226 : decode cX11_count 226 = .ok (.goto (-36), 3) := by decide +kernel
theorem dX11_count_229 : decode cX11_count 229 = .ok (.iload_n 2, 1) := by decide +kernel
theorem dX11_count_230 : decode cX11_count 230 = .ok (.ireturn, 1) := by decide +kernel
theorem dX11_count_231 : decode cX11_count 231 = .ok (.iconst 0, 1) := by decide +kernel
theorem dX11_count_232 : decode cX11_count 232 = .ok (.istore_n 3, 1) := by decide +kernel
theorem dX11_count_233 : decode cX11_count 233 = .ok (.iload_n 3, 1) := by decide +kernel
theorem dX11_count_234 : decode cX11_count 234 = .ok (.bipush 96, 2) := by decide +kernel
theorem dX11_count_236 : decode cX11_count 236 = .ok (.if_icmp .ge 57, 3) := by decide +kernel
theorem dX11_count_239 : decode cX11_count 239 = .ok (.iload_n 2, 1) := by decide +kernel
theorem dX11_count_240 : decode cX11_count 240 = .ok (.iload_n 1, 1) := by decide +kernel
theorem dX11_count_241 : decode cX11_count 241 = .ok (.bipush 13, 2) := by decide +kernel
theorem dX11_count_243 : decode cX11_count 243 = .ok (.if_icmp .ne 24, 3) := by decide +kernel
theorem dX11_count_246 : decode cX11_count 246 = .ok (.aload_n 0, 1) := by decide +kernel
theorem dX11_count_247 : decode cX11_count 247 = .ok (.iload_n 3, 1) := by decide +kernel
theorem dX11_count_248 : decode cX11_count 248 = .ok (.invokevirtual 198, 3) := by decide +kernel
theorem dX11_count_251 : decode cX11_count 251 = .ok (.aload_n 0, 1) := by decide +kernel
theorem dX11_count_252 : decode cX11_count 252 = .ok (.iload_n 3, 1) := by decide +kernel
theorem dX11_count_253 : decode cX11_count 253 = .ok (.invokevirtual 201, 3) := by decide +kernel
theorem dX11_count_256 : decode cX11_count 256 = .ok (.if_icmp .ne 7, 3) := by decide +kernel
theorem dX11_count_259 : decode cX11_count 259 = .ok (.iconst 1, 1) := by decide +kernel
theorem dX11_count_260 : decode cX11_count 260 = .ok (.goto 25, 3) := by decide +kernel
theorem dX11_count_263 : decode cX11_count 263 = .ok (.iconst 0, 1) := by decide +kernel
theorem dX11_count_264 : decode cX11_count 264 = .ok (.goto 21, 3) := by decide +kernel
theorem dX11_count_267 : decode cX11_count 267 = .ok (.aload_n 0, 1) := by decide +kernel
theorem dX11_count_268 : decode cX11_count 268 = .ok (.iload_n 3, 1) := by decide +kernel
theorem dX11_count_269 : decode cX11_count 269 = .ok (.invokevirtual 198, 3) := by decide +kernel
theorem dX11_count_272 : decode cX11_count 272 = .ok (.aload_n 0, 1) := by decide +kernel
theorem dX11_count_273 : decode cX11_count 273 = .ok (.iload_n 3, 1) := by decide +kernel
theorem dX11_count_274 : decode cX11_count 274 = .ok (.invokevirtual 201, 3) := by decide +kernel
theorem dX11_count_277 : decode cX11_count 277 = .ok (.if_icmp .le 7, 3) := by decide +kernel
theorem dX11_count_280 : decode cX11_count 280 = .ok (.iconst 1, 1) := by decide +kernel
theorem dX11_count_281 : decode cX11_count 281 = .ok (.goto 4, 3) := by decide +kernel
theorem dX11_count_284 : decode cX11_count 284 = .ok (.iconst 0, 1) := by decide +kernel
theorem dX11_count_285 : decode cX11_count 285 = .ok (.iadd, 1) := by decide +kernel
theorem dX11_count_286 : decode cX11_count 286 = .ok (.istore_n 2, 1) := by decide +kernel
theorem dX11_count_287 : decode cX11_count 287 = .ok (.iinc 3 1, 3) := by decide +kernel
theorem dX11_count_290 : decode cX11_count 290 = .ok (.goto (-57), 3) := by decide +kernel
theorem dX11_count_293 : decode cX11_count 293 = .ok (.iload_n 2, 1) := by decide +kernel
theorem dX11_count_294 : decode cX11_count 294 = .ok (.ireturn, 1) := by decide +kernel
theorem dX11_count_295 : decode cX11_count 295 = .ok (.iconst (-1), 1) := by decide +kernel
theorem dX11_count_296 : decode cX11_count 296 = .ok (.ireturn, 1) := by decide +kernel
set_option maxHeartbeats 4000000 in
set_option maxRecDepth 20000 in
theorem ct_count {l : Launch} {E : Ev} {P : Value → AH → Prop} {o : Nat} {ad : Nat → Nat} {F : Nat → Int32} {A : Nat → Nat → Int32} {h : AH} (I : mI o ad) {n : Nat} (hn : F 9 = nI n) (hn3 : n ≤ 30) {m : Nat} (hm : F 23 = nI m) (hm6 : m ≤ 60) {w : Int32} (k0 : w = 0 → P (.int (F 1)) (mh E o ad (upd F 0 0) A h)) (k1 : w = 1 → P (.int (F 9)) (mh E o ad (upd F 0 0) A h)) (k2 : w = 2 → P (.int (rcnt (fun p => A 6 p < 0) n)) (mh E o ad (upd F 0 0) A h)) (k3 : w = 3 → P (.int (F 23)) (mh E o ad (upd F 0 0) A h)) (k4 : w = 4 → P (.int (rcnt (fun j => ¬ A 21 (10 * j + 2) < 0) m)) (mh E o ad (upd F 0 0) A h)) (k5 : w = 5 → P (.int (F 24)) (mh E o ad (upd F 0 0) A h)) (k6 : w = 6 → P (.int (A 25 1)) (mh E o ad (upd F 0 0) A h)) (k7 : w = 7 → P (.int (A 25 2)) (mh E o ad (upd F 0 0) A h)) (k8 : w = 8 → P (.int (A 25 3)) (mh E o ad (upd F 0 0) A h)) (k9 : w = 9 → P (.int (A 25 4)) (mh E o ad (upd F 0 0) A h)) (k10 : w = 10 → P (.int (A 25 5)) (mh E o ad (upd F 0 0) A h)) (k11 : w = 11 → P (.int (rsum (fun p => rbond F A p = w - 10) (A 8) n)) (mh E o ad (upd F 0 0) A h)) (k12 : w = 12 → P (.int (rsum (fun p => rbond F A p = w - 10) (A 8) n)) (mh E o ad (upd F 0 0) A h)) (k13 : w = 13 → P (.int (rcnt (fun s => rlow (F 2) A (nI s) n = rhigh (F 2) A (nI s) n) 96)) (mh E o ad (upd F 0 0) A h)) (k14 : w = 14 → P (.int (rcnt (fun s => rhigh (F 2) A (nI s) n < rlow (F 2) A (nI s) n) 96)) (mh E o ad (upd F 0 0) A h)) (k15 : ¬ w = 0 → ¬ w = 1 → ¬ w = 2 → ¬ w = 3 → ¬ w = 4 → ¬ w = 5 → ¬ w = 6 → ¬ w = 7 → ¬ w = 8 → ¬ w = 9 → ¬ w = 10 → ¬ w = 11 → ¬ w = 12 → ¬ w = 13 → ¬ w = 14 → P (.int (-1)) (mh E o ad (upd F 0 0) A h)) : Mt l E yX11_count cX11_count 4 (some .int) 5 109 0 0 [.ref o, .int w] (mh E o ad F A h) P := by
  refine Mt.of (by decide) (Nat.le_of_ble_eq_true rfl) ?_
  intro K hK hR C
  refine g_aload_n (n := 1) C dX11_count_0 rfl rfl ?_
  refine g_iconst (n := 2) (v := 0) C dX11_count_1 rfl (by decide) ?_
  refine m_put (n := 5) 0 C dX11_count_2 rfl (by decide) w_1100 rfl rfl rfl mfs_0 ?_
  refine g_iconst (n := 6) (v := 0) C dX11_count_5 rfl (by decide) ?_
  refine g_istore_n (n := 7) C dX11_count_6 rfl (by decide) ?_
  refine g_iload_n (n := 8) C dX11_count_7 rfl rfl ?_
  refine g_case (v := 0) (fun zc8_0 => ?_) (fun zc8_0 => ?_)
  · --case 0
    refine g_tableIn (t := 84) C dX11_count_8 (by decide) (by decide) (by rfl) (by decide) ?_
    refine g_aload_n (n := 85) C dX11_count_84 rfl rfl ?_
    refine m_get (n := 88) 1 C dX11_count_85 rfl (by decide) rfl w_1101 rfl ?_
    refine g_iret C dX11_count_88 (by decide) (by decide) ?_
    exact k0 zc8_0
  refine g_case (v := 1) (fun zc8_1 => ?_) (fun zc8_1 => ?_)
  · --case 1
    refine g_tableIn (t := 89) C dX11_count_8 (by decide) (by decide) (by rfl) (by decide) ?_
    refine g_aload_n (n := 90) C dX11_count_89 rfl rfl ?_
    refine m_get (n := 93) 9 C dX11_count_90 rfl (by decide) rfl w_1109 rfl ?_
    refine g_iret C dX11_count_93 (by decide) (by decide) ?_
    exact k1 zc8_1
  refine g_case (v := 2) (fun zc8_2 => ?_) (fun zc8_2 => ?_)
  · --case 2
    refine g_tableIn (t := 94) C dX11_count_8 (by decide) (by decide) (by rfl) (by decide) ?_
    refine g_iconst (n := 95) (v := 0) C dX11_count_94 rfl (by decide) ?_
    refine g_istore_n (n := 96) C dX11_count_95 rfl (by decide) ?_
    have lp : ∀ p : Nat, p ≤ n → ∀ (v t : Int32), v = rcnt (fun p => A 6 p < 0) p → t = nI p → G K E 4 (QM K E (some .int) 0 0 P) 0 0 96 [(0, .ref o), (1, .int w), (2, .int v), (3, .int t)] [] (mh E o ad (upd F 0 0) A h) := by
      refine loopN (fun p => ∀ (v t : Int32), v = rcnt (fun p => A 6 p < 0) p → t = nI p → G K E 4 (QM K E (some .int) 0 0 P) 0 0 96 [(0, .ref o), (1, .int w), (2, .int v), (3, .int t)] [] (mh E o ad (upd F 0 0) A h)) (n) ?_
      intro p hlep ihp v t ev et
      subst et
      refine g_iload_n (n := 97) C dX11_count_96 rfl rfl ?_
      refine g_aload_n (n := 98) C dX11_count_97 rfl rfl ?_
      refine m_get (n := 101) 9 C dX11_count_98 rfl (by decide) rfl w_1109 rfl ?_
      refine g_icmp_ge (n := 104) (t := 127) C dX11_count_101 rfl (by decide) (fun zc101 => ?_) (fun zc101 => ?_)
      · --t101
        refine g_iload_n (n := 128) C dX11_count_127 rfl rfl ?_
        refine g_iret C dX11_count_128 (by decide) (by decide) ?_
        have ep : p = n := i_eq (show upd F 0 0 9 = nI n from hn) zc101 hlep (by omega)
        subst ep
        rw [ev]
        exact k2 zc8_2
      · --f101
        have hj30 : p < 30 := by have := i_lt (show upd F 0 0 9 = nI n from hn) zc101 hlep (by omega); omega
        refine g_iload_n (n := 105) C dX11_count_104 rfl rfl ?_
        refine g_aload_n (n := 106) C dX11_count_105 rfl rfl ?_
        refine m_get (n := 109) 6 C dX11_count_106 rfl (by decide) rfl w_1106 rfl ?_
        refine g_iload_n (n := 110) C dX11_count_109 rfl rfl ?_
        refine m_iald (n := 111) 6 (p) C dX11_count_110 rfl I (by decide) rfl rfl hj30 (by decide) rfl ?_
        refine g_if_ge (n := 114) (t := 118) C dX11_count_111 rfl (by decide) (fun zc111 => ?_) (fun zc111 => ?_)
        · --t111
          refine g_iconst (n := 119) (v := 0) C dX11_count_118 rfl (by decide) ?_
          refine g_iadd (n := 120) C dX11_count_119 rfl ?_
          refine g_istore_n (n := 121) C dX11_count_120 rfl (by decide) ?_
          refine g_iinc (n := 124) C dX11_count_121 rfl rfl rfl (by decide) ?_
          refine g_goto (t := 96) C dX11_count_124 (by decide) ?_
          exact g_lv [0, 1, 2, 3] rfl (ihp (i_lt (show upd F 0 0 9 = nI n from hn) zc101 hlep (by omega)) _ _ (by rw [ev]; first | exact rcnt_1 (by assumption) | exact rcnt_0 (by assumption) | exact rcnt_1 (Int32.not_le.mp (by assumption)) | exact rcnt_0 (Int32.not_lt.mpr (by assumption)) | exact rcnt_0 (fun zq => zq (by assumption))) (nI_1 p))
        · --f111
          refine g_iconst (n := 115) (v := 1) C dX11_count_114 rfl (by decide) ?_
          refine g_goto (t := 119) C dX11_count_115 (by decide) ?_
          refine g_iadd (n := 120) C dX11_count_119 rfl ?_
          refine g_istore_n (n := 121) C dX11_count_120 rfl (by decide) ?_
          refine g_iinc (n := 124) C dX11_count_121 rfl rfl rfl (by decide) ?_
          refine g_goto (t := 96) C dX11_count_124 (by decide) ?_
          exact g_lv [0, 1, 2, 3] rfl (ihp (i_lt (show upd F 0 0 9 = nI n from hn) zc101 hlep (by omega)) _ _ (by rw [ev]; first | exact rcnt_1 (by assumption) | exact rcnt_0 (by assumption) | exact rcnt_1 (Int32.not_le.mp (by assumption)) | exact rcnt_0 (Int32.not_lt.mpr (by assumption)) | exact rcnt_0 (fun zq => zq (by assumption))) (nI_1 p))
    exact g_lv [0, 1, 2, 3] rfl (lp 0 (Nat.zero_le _) _ _ rfl rfl)
  refine g_case (v := 3) (fun zc8_3 => ?_) (fun zc8_3 => ?_)
  · --case 3
    refine g_tableIn (t := 129) C dX11_count_8 (by decide) (by decide) (by rfl) (by decide) ?_
    refine g_aload_n (n := 130) C dX11_count_129 rfl rfl ?_
    refine m_get (n := 133) 23 C dX11_count_130 rfl (by decide) rfl w_1123 rfl ?_
    refine g_iret C dX11_count_133 (by decide) (by decide) ?_
    exact k3 zc8_3
  refine g_case (v := 4) (fun zc8_4 => ?_) (fun zc8_4 => ?_)
  · --case 4
    refine g_tableIn (t := 134) C dX11_count_8 (by decide) (by decide) (by rfl) (by decide) ?_
    refine g_iconst (n := 135) (v := 0) C dX11_count_134 rfl (by decide) ?_
    refine g_istore_n (n := 136) C dX11_count_135 rfl (by decide) ?_
    have lp : ∀ p : Nat, p ≤ m → ∀ (v t : Int32), v = rcnt (fun j => ¬ A 21 (10 * j + 2) < 0) p → t = nI p → G K E 4 (QM K E (some .int) 0 0 P) 0 0 136 [(0, .ref o), (1, .int w), (2, .int v), (3, .int t)] [] (mh E o ad (upd F 0 0) A h) := by
      refine loopN (fun p => ∀ (v t : Int32), v = rcnt (fun j => ¬ A 21 (10 * j + 2) < 0) p → t = nI p → G K E 4 (QM K E (some .int) 0 0 P) 0 0 136 [(0, .ref o), (1, .int w), (2, .int v), (3, .int t)] [] (mh E o ad (upd F 0 0) A h)) (m) ?_
      intro p hlep ihp v t ev et
      subst et
      refine g_iload_n (n := 137) C dX11_count_136 rfl rfl ?_
      refine g_aload_n (n := 138) C dX11_count_137 rfl rfl ?_
      refine m_get (n := 141) 23 C dX11_count_138 rfl (by decide) rfl w_1123 rfl ?_
      refine g_icmp_ge (n := 144) (t := 172) C dX11_count_141 rfl (by decide) (fun zc141 => ?_) (fun zc141 => ?_)
      · --t141
        refine g_iload_n (n := 173) C dX11_count_172 rfl rfl ?_
        refine g_iret C dX11_count_173 (by decide) (by decide) ?_
        have ep : p = m := i_eq (show upd F 0 0 23 = nI m from hm) zc141 hlep (by omega)
        subst ep
        rw [ev]
        exact k4 zc8_4
      · --f141
        have hj60 : p < 60 := by have := i_lt (show upd F 0 0 23 = nI m from hm) zc141 hlep (by omega); omega
        refine g_iload_n (n := 145) C dX11_count_144 rfl rfl ?_
        refine g_aload_n (n := 146) C dX11_count_145 rfl rfl ?_
        refine m_get (n := 149) 21 C dX11_count_146 rfl (by decide) rfl w_1121 rfl ?_
        refine g_bipush (n := 151) (v := 10) C dX11_count_149 rfl (by decide) ?_
        refine g_iload_n (n := 152) C dX11_count_151 rfl rfl ?_
        refine g_imul (n := 153) C dX11_count_152 rfl ?_
        refine g_iconst (n := 154) (v := 2) C dX11_count_153 rfl (by decide) ?_
        refine g_iadd (n := 155) C dX11_count_154 rfl ?_
        refine m_iald (n := 156) 21 (10 * p + 2) C dX11_count_155 rfl I (by decide) rfl (ix10 rfl 2) (by omega) (by decide) rfl ?_
        refine g_if_lt (n := 159) (t := 163) C dX11_count_156 rfl (by decide) (fun zc156 => ?_) (fun zc156 => ?_)
        · --t156
          refine g_iconst (n := 164) (v := 0) C dX11_count_163 rfl (by decide) ?_
          refine g_iadd (n := 165) C dX11_count_164 rfl ?_
          refine g_istore_n (n := 166) C dX11_count_165 rfl (by decide) ?_
          refine g_iinc (n := 169) C dX11_count_166 rfl rfl rfl (by decide) ?_
          refine g_goto (t := 136) C dX11_count_169 (by decide) ?_
          exact g_lv [0, 1, 2, 3] rfl (ihp (i_lt (show upd F 0 0 23 = nI m from hm) zc141 hlep (by omega)) _ _ (by rw [ev]; first | exact rcnt_1 (by assumption) | exact rcnt_0 (by assumption) | exact rcnt_1 (Int32.not_le.mp (by assumption)) | exact rcnt_0 (Int32.not_lt.mpr (by assumption)) | exact rcnt_0 (fun zq => zq (by assumption))) (nI_1 p))
        · --f156
          refine g_iconst (n := 160) (v := 1) C dX11_count_159 rfl (by decide) ?_
          refine g_goto (t := 164) C dX11_count_160 (by decide) ?_
          refine g_iadd (n := 165) C dX11_count_164 rfl ?_
          refine g_istore_n (n := 166) C dX11_count_165 rfl (by decide) ?_
          refine g_iinc (n := 169) C dX11_count_166 rfl rfl rfl (by decide) ?_
          refine g_goto (t := 136) C dX11_count_169 (by decide) ?_
          exact g_lv [0, 1, 2, 3] rfl (ihp (i_lt (show upd F 0 0 23 = nI m from hm) zc141 hlep (by omega)) _ _ (by rw [ev]; first | exact rcnt_1 (by assumption) | exact rcnt_0 (by assumption) | exact rcnt_1 (Int32.not_le.mp (by assumption)) | exact rcnt_0 (Int32.not_lt.mpr (by assumption)) | exact rcnt_0 (fun zq => zq (by assumption))) (nI_1 p))
    exact g_lv [0, 1, 2, 3] rfl (lp 0 (Nat.zero_le _) _ _ rfl rfl)
  refine g_case (v := 5) (fun zc8_5 => ?_) (fun zc8_5 => ?_)
  · --case 5
    refine g_tableIn (t := 174) C dX11_count_8 (by decide) (by decide) (by rfl) (by decide) ?_
    refine g_aload_n (n := 175) C dX11_count_174 rfl rfl ?_
    refine m_get (n := 178) 24 C dX11_count_175 rfl (by decide) rfl w_1124 rfl ?_
    refine g_iret C dX11_count_178 (by decide) (by decide) ?_
    exact k5 zc8_5
  refine g_case (v := 6) (fun zc8_6 => ?_) (fun zc8_6 => ?_)
  · --case 6
    refine g_tableIn (t := 179) C dX11_count_8 (by decide) (by decide) (by rfl) (by decide) ?_
    refine g_aload_n (n := 180) C dX11_count_179 rfl rfl ?_
    refine m_get (n := 183) 25 C dX11_count_180 rfl (by decide) rfl w_1125 rfl ?_
    refine g_iload_n (n := 184) C dX11_count_183 rfl rfl ?_
    refine g_iconst (n := 185) (v := 5) C dX11_count_184 rfl (by decide) ?_
    refine g_isub (n := 186) C dX11_count_185 rfl ?_
    refine m_iald (n := 187) 25 (1) C dX11_count_186 rfl I (by decide) rfl (by rw [zc8_6]; rfl) (by decide) (by decide) rfl ?_
    refine g_iret C dX11_count_187 (by decide) (by decide) ?_
    exact k6 zc8_6
  refine g_case (v := 7) (fun zc8_7 => ?_) (fun zc8_7 => ?_)
  · --case 7
    refine g_tableIn (t := 179) C dX11_count_8 (by decide) (by decide) (by rfl) (by decide) ?_
    refine g_aload_n (n := 180) C dX11_count_179 rfl rfl ?_
    refine m_get (n := 183) 25 C dX11_count_180 rfl (by decide) rfl w_1125 rfl ?_
    refine g_iload_n (n := 184) C dX11_count_183 rfl rfl ?_
    refine g_iconst (n := 185) (v := 5) C dX11_count_184 rfl (by decide) ?_
    refine g_isub (n := 186) C dX11_count_185 rfl ?_
    refine m_iald (n := 187) 25 (2) C dX11_count_186 rfl I (by decide) rfl (by rw [zc8_7]; rfl) (by decide) (by decide) rfl ?_
    refine g_iret C dX11_count_187 (by decide) (by decide) ?_
    exact k7 zc8_7
  refine g_case (v := 8) (fun zc8_8 => ?_) (fun zc8_8 => ?_)
  · --case 8
    refine g_tableIn (t := 179) C dX11_count_8 (by decide) (by decide) (by rfl) (by decide) ?_
    refine g_aload_n (n := 180) C dX11_count_179 rfl rfl ?_
    refine m_get (n := 183) 25 C dX11_count_180 rfl (by decide) rfl w_1125 rfl ?_
    refine g_iload_n (n := 184) C dX11_count_183 rfl rfl ?_
    refine g_iconst (n := 185) (v := 5) C dX11_count_184 rfl (by decide) ?_
    refine g_isub (n := 186) C dX11_count_185 rfl ?_
    refine m_iald (n := 187) 25 (3) C dX11_count_186 rfl I (by decide) rfl (by rw [zc8_8]; rfl) (by decide) (by decide) rfl ?_
    refine g_iret C dX11_count_187 (by decide) (by decide) ?_
    exact k8 zc8_8
  refine g_case (v := 9) (fun zc8_9 => ?_) (fun zc8_9 => ?_)
  · --case 9
    refine g_tableIn (t := 179) C dX11_count_8 (by decide) (by decide) (by rfl) (by decide) ?_
    refine g_aload_n (n := 180) C dX11_count_179 rfl rfl ?_
    refine m_get (n := 183) 25 C dX11_count_180 rfl (by decide) rfl w_1125 rfl ?_
    refine g_iload_n (n := 184) C dX11_count_183 rfl rfl ?_
    refine g_iconst (n := 185) (v := 5) C dX11_count_184 rfl (by decide) ?_
    refine g_isub (n := 186) C dX11_count_185 rfl ?_
    refine m_iald (n := 187) 25 (4) C dX11_count_186 rfl I (by decide) rfl (by rw [zc8_9]; rfl) (by decide) (by decide) rfl ?_
    refine g_iret C dX11_count_187 (by decide) (by decide) ?_
    exact k9 zc8_9
  refine g_case (v := 10) (fun zc8_10 => ?_) (fun zc8_10 => ?_)
  · --case 10
    refine g_tableIn (t := 179) C dX11_count_8 (by decide) (by decide) (by rfl) (by decide) ?_
    refine g_aload_n (n := 180) C dX11_count_179 rfl rfl ?_
    refine m_get (n := 183) 25 C dX11_count_180 rfl (by decide) rfl w_1125 rfl ?_
    refine g_iload_n (n := 184) C dX11_count_183 rfl rfl ?_
    refine g_iconst (n := 185) (v := 5) C dX11_count_184 rfl (by decide) ?_
    refine g_isub (n := 186) C dX11_count_185 rfl ?_
    refine m_iald (n := 187) 25 (5) C dX11_count_186 rfl I (by decide) rfl (by rw [zc8_10]; rfl) (by decide) (by decide) rfl ?_
    refine g_iret C dX11_count_187 (by decide) (by decide) ?_
    exact k10 zc8_10
  refine g_case (v := 11) (fun zc8_11 => ?_) (fun zc8_11 => ?_)
  · --case 11
    refine g_tableIn (t := 188) C dX11_count_8 (by decide) (by decide) (by rfl) (by decide) ?_
    refine g_iconst (n := 189) (v := 0) C dX11_count_188 rfl (by decide) ?_
    refine g_istore_n (n := 190) C dX11_count_189 rfl (by decide) ?_
    have lp : ∀ p : Nat, p ≤ n → ∀ (v t : Int32), v = rsum (fun p => rbond F A p = w - 10) (A 8) p → t = nI p → G K E 4 (QM K E (some .int) 0 0 P) 0 0 190 [(0, .ref o), (1, .int w), (2, .int v), (3, .int t)] [] (mh E o ad (upd F 0 0) A h) := by
      refine loopN (fun p => ∀ (v t : Int32), v = rsum (fun p => rbond F A p = w - 10) (A 8) p → t = nI p → G K E 4 (QM K E (some .int) 0 0 P) 0 0 190 [(0, .ref o), (1, .int w), (2, .int v), (3, .int t)] [] (mh E o ad (upd F 0 0) A h)) (n) ?_
      intro p hlep ihp v t ev et
      subst et
      refine g_iload_n (n := 191) C dX11_count_190 rfl rfl ?_
      refine g_aload_n (n := 192) C dX11_count_191 rfl rfl ?_
      refine m_get (n := 195) 9 C dX11_count_192 rfl (by decide) rfl w_1109 rfl ?_
      refine g_icmp_ge (n := 198) (t := 229) C dX11_count_195 rfl (by decide) (fun zc195 => ?_) (fun zc195 => ?_)
      · --t195
        refine g_iload_n (n := 230) C dX11_count_229 rfl rfl ?_
        refine g_iret C dX11_count_230 (by decide) (by decide) ?_
        have ep : p = n := i_eq (show upd F 0 0 9 = nI n from hn) zc195 hlep (by omega)
        subst ep
        rw [ev]
        first | exact k11 zc8_11 | exact k12 zc8_12
      · --f195
        have hj30 : p < 30 := by have := i_lt (show upd F 0 0 9 = nI n from hn) zc195 hlep (by omega); omega
        refine g_iload_n (n := 199) C dX11_count_198 rfl rfl ?_
        refine g_aload_n (n := 200) C dX11_count_199 rfl rfl ?_
        refine g_iload_n (n := 201) C dX11_count_200 rfl rfl ?_
        refine g_callV (n := 204) (As := [.int _]) C dX11_count_201 rfl mw_X11_bondOf w_1329 (g_recv C mh_o rfl) rfl rfl (room hR rfl) (ct_bondOf I hj30 ?_)
        refine g_iload_n (n := 205) C dX11_count_204 rfl rfl ?_
        refine g_bipush (n := 207) (v := 10) C dX11_count_205 rfl (by decide) ?_
        refine g_isub (n := 208) C dX11_count_207 rfl ?_
        refine g_icmp_ne (n := 211) (t := 220) C dX11_count_208 rfl (by decide) (fun zc208 => ?_) (fun zc208 => ?_)
        · --t208
          refine g_iconst (n := 221) (v := 0) C dX11_count_220 rfl (by decide) ?_
          refine g_iadd (n := 222) C dX11_count_221 rfl ?_
          refine g_istore_n (n := 223) C dX11_count_222 rfl (by decide) ?_
          refine g_iinc (n := 226) C dX11_count_223 rfl rfl rfl (by decide) ?_
          refine g_goto (t := 190) C dX11_count_226 (by decide) ?_
          exact g_lv [0, 1, 2, 3] rfl (ihp (i_lt (show upd F 0 0 9 = nI n from hn) zc195 hlep (by omega)) _ _ (by rw [ev]; first | exact rsum_1 (by assumption) | exact rsum_0 (by assumption)) (nI_1 p))
        · --f208
          refine g_aload_n (n := 212) C dX11_count_211 rfl rfl ?_
          refine m_get (n := 215) 8 C dX11_count_212 rfl (by decide) rfl w_1108 rfl ?_
          refine g_iload_n (n := 216) C dX11_count_215 rfl rfl ?_
          refine m_iald (n := 217) 8 (p) C dX11_count_216 rfl I (by decide) rfl rfl hj30 (by decide) rfl ?_
          refine g_goto (t := 221) C dX11_count_217 (by decide) ?_
          refine g_iadd (n := 222) C dX11_count_221 rfl ?_
          refine g_istore_n (n := 223) C dX11_count_222 rfl (by decide) ?_
          refine g_iinc (n := 226) C dX11_count_223 rfl rfl rfl (by decide) ?_
          refine g_goto (t := 190) C dX11_count_226 (by decide) ?_
          exact g_lv [0, 1, 2, 3] rfl (ihp (i_lt (show upd F 0 0 9 = nI n from hn) zc195 hlep (by omega)) _ _ (by rw [ev]; first | exact rsum_1 (by assumption) | exact rsum_0 (by assumption)) (nI_1 p))
    exact g_lv [0, 1, 2, 3] rfl (lp 0 (Nat.zero_le _) _ _ rfl rfl)
  refine g_case (v := 12) (fun zc8_12 => ?_) (fun zc8_12 => ?_)
  · --case 12
    refine g_tableIn (t := 188) C dX11_count_8 (by decide) (by decide) (by rfl) (by decide) ?_
    refine g_iconst (n := 189) (v := 0) C dX11_count_188 rfl (by decide) ?_
    refine g_istore_n (n := 190) C dX11_count_189 rfl (by decide) ?_
    have lp : ∀ p : Nat, p ≤ n → ∀ (v t : Int32), v = rsum (fun p => rbond F A p = w - 10) (A 8) p → t = nI p → G K E 4 (QM K E (some .int) 0 0 P) 0 0 190 [(0, .ref o), (1, .int w), (2, .int v), (3, .int t)] [] (mh E o ad (upd F 0 0) A h) := by
      refine loopN (fun p => ∀ (v t : Int32), v = rsum (fun p => rbond F A p = w - 10) (A 8) p → t = nI p → G K E 4 (QM K E (some .int) 0 0 P) 0 0 190 [(0, .ref o), (1, .int w), (2, .int v), (3, .int t)] [] (mh E o ad (upd F 0 0) A h)) (n) ?_
      intro p hlep ihp v t ev et
      subst et
      refine g_iload_n (n := 191) C dX11_count_190 rfl rfl ?_
      refine g_aload_n (n := 192) C dX11_count_191 rfl rfl ?_
      refine m_get (n := 195) 9 C dX11_count_192 rfl (by decide) rfl w_1109 rfl ?_
      refine g_icmp_ge (n := 198) (t := 229) C dX11_count_195 rfl (by decide) (fun zc195 => ?_) (fun zc195 => ?_)
      · --t195
        refine g_iload_n (n := 230) C dX11_count_229 rfl rfl ?_
        refine g_iret C dX11_count_230 (by decide) (by decide) ?_
        have ep : p = n := i_eq (show upd F 0 0 9 = nI n from hn) zc195 hlep (by omega)
        subst ep
        rw [ev]
        first | exact k11 zc8_11 | exact k12 zc8_12
      · --f195
        have hj30 : p < 30 := by have := i_lt (show upd F 0 0 9 = nI n from hn) zc195 hlep (by omega); omega
        refine g_iload_n (n := 199) C dX11_count_198 rfl rfl ?_
        refine g_aload_n (n := 200) C dX11_count_199 rfl rfl ?_
        refine g_iload_n (n := 201) C dX11_count_200 rfl rfl ?_
        refine g_callV (n := 204) (As := [.int _]) C dX11_count_201 rfl mw_X11_bondOf w_1329 (g_recv C mh_o rfl) rfl rfl (room hR rfl) (ct_bondOf I hj30 ?_)
        refine g_iload_n (n := 205) C dX11_count_204 rfl rfl ?_
        refine g_bipush (n := 207) (v := 10) C dX11_count_205 rfl (by decide) ?_
        refine g_isub (n := 208) C dX11_count_207 rfl ?_
        refine g_icmp_ne (n := 211) (t := 220) C dX11_count_208 rfl (by decide) (fun zc208 => ?_) (fun zc208 => ?_)
        · --t208
          refine g_iconst (n := 221) (v := 0) C dX11_count_220 rfl (by decide) ?_
          refine g_iadd (n := 222) C dX11_count_221 rfl ?_
          refine g_istore_n (n := 223) C dX11_count_222 rfl (by decide) ?_
          refine g_iinc (n := 226) C dX11_count_223 rfl rfl rfl (by decide) ?_
          refine g_goto (t := 190) C dX11_count_226 (by decide) ?_
          exact g_lv [0, 1, 2, 3] rfl (ihp (i_lt (show upd F 0 0 9 = nI n from hn) zc195 hlep (by omega)) _ _ (by rw [ev]; first | exact rsum_1 (by assumption) | exact rsum_0 (by assumption)) (nI_1 p))
        · --f208
          refine g_aload_n (n := 212) C dX11_count_211 rfl rfl ?_
          refine m_get (n := 215) 8 C dX11_count_212 rfl (by decide) rfl w_1108 rfl ?_
          refine g_iload_n (n := 216) C dX11_count_215 rfl rfl ?_
          refine m_iald (n := 217) 8 (p) C dX11_count_216 rfl I (by decide) rfl rfl hj30 (by decide) rfl ?_
          refine g_goto (t := 221) C dX11_count_217 (by decide) ?_
          refine g_iadd (n := 222) C dX11_count_221 rfl ?_
          refine g_istore_n (n := 223) C dX11_count_222 rfl (by decide) ?_
          refine g_iinc (n := 226) C dX11_count_223 rfl rfl rfl (by decide) ?_
          refine g_goto (t := 190) C dX11_count_226 (by decide) ?_
          exact g_lv [0, 1, 2, 3] rfl (ihp (i_lt (show upd F 0 0 9 = nI n from hn) zc195 hlep (by omega)) _ _ (by rw [ev]; first | exact rsum_1 (by assumption) | exact rsum_0 (by assumption)) (nI_1 p))
    exact g_lv [0, 1, 2, 3] rfl (lp 0 (Nat.zero_le _) _ _ rfl rfl)
  refine g_case (v := 13) (fun zc8_13 => ?_) (fun zc8_13 => ?_)
  · --case 13
    refine g_tableIn (t := 231) C dX11_count_8 (by decide) (by decide) (by rfl) (by decide) ?_
    refine g_iconst (n := 232) (v := 0) C dX11_count_231 rfl (by decide) ?_
    refine g_istore_n (n := 233) C dX11_count_232 rfl (by decide) ?_
    have lp : ∀ p : Nat, p ≤ 96 → ∀ (v t : Int32), v = rcnt (fun s => rlow (F 2) A (nI s) n = rhigh (F 2) A (nI s) n) p → t = nI p → G K E 4 (QM K E (some .int) 0 0 P) 0 0 233 [(0, .ref o), (1, .int w), (2, .int v), (3, .int t)] [] (mh E o ad (upd F 0 0) A h) := by
      refine loopN (fun p => ∀ (v t : Int32), v = rcnt (fun s => rlow (F 2) A (nI s) n = rhigh (F 2) A (nI s) n) p → t = nI p → G K E 4 (QM K E (some .int) 0 0 P) 0 0 233 [(0, .ref o), (1, .int w), (2, .int v), (3, .int t)] [] (mh E o ad (upd F 0 0) A h)) (96) ?_
      intro p hlep ihp v t ev et
      subst et
      refine g_iload_n (n := 234) C dX11_count_233 rfl rfl ?_
      refine g_bipush (n := 236) (v := 96) C dX11_count_234 rfl (by decide) ?_
      refine g_icmp_ge (n := 239) (t := 293) C dX11_count_236 rfl (by decide) (fun zc236 => ?_) (fun zc236 => ?_)
      · --t236
        refine g_iload_n (n := 294) C dX11_count_293 rfl rfl ?_
        refine g_iret C dX11_count_294 (by decide) (by decide) ?_
        have ep : p = 96 := i_eq (n := 96) rfl zc236 hlep (by omega)
        subst ep
        rw [ev]
        exact k13 zc8_13
      · --f236
        refine g_iload_n (n := 240) C dX11_count_239 rfl rfl ?_
        refine g_iload_n (n := 241) C dX11_count_240 rfl rfl ?_
        refine g_bipush (n := 243) (v := 13) C dX11_count_241 rfl (by decide) ?_
        refine g_icmp_ne (n := 246) (t := 267) C dX11_count_243 rfl (by decide) (fun zc243 => ?_) (fun zc243 => ?_)
        · exact absurd zc8_13 zc243
        refine g_aload_n (n := 247) C dX11_count_246 rfl rfl ?_
        refine g_iload_n (n := 248) C dX11_count_247 rfl rfl ?_
        refine g_callV (n := 251) (As := [.int _]) C dX11_count_248 rfl mw_X11_low w_1313 (g_recv C mh_o rfl) rfl rfl (room hR rfl) (ct_low I hn hn3 ?_)
        refine g_aload_n (n := 252) C dX11_count_251 rfl rfl ?_
        refine g_iload_n (n := 253) C dX11_count_252 rfl rfl ?_
        refine g_callV (n := 256) (As := [.int _]) C dX11_count_253 rfl mw_X11_high w_1317 (g_recv C mh_o rfl) rfl rfl (room hR rfl) (ct_high I hn hn3 ?_)
        refine g_icmp_ne (n := 259) (t := 263) C dX11_count_256 rfl (by decide) (fun zc256 => ?_) (fun zc256 => ?_)
        · --t256
          refine g_iconst (n := 264) (v := 0) C dX11_count_263 rfl (by decide) ?_
          refine g_goto (t := 285) C dX11_count_264 (by decide) ?_
          refine g_iadd (n := 286) C dX11_count_285 rfl ?_
          refine g_istore_n (n := 287) C dX11_count_286 rfl (by decide) ?_
          refine g_iinc (n := 290) C dX11_count_287 rfl rfl rfl (by decide) ?_
          refine g_goto (t := 233) C dX11_count_290 (by decide) ?_
          exact g_lv [0, 1, 2, 3] rfl (ihp (i_lt (n := 96) rfl zc236 hlep (by omega)) _ _ (by rw [ev]; first | exact rcnt_1 (by assumption) | exact rcnt_0 (by assumption) | exact rcnt_1 (Int32.not_le.mp (by assumption)) | exact rcnt_0 (Int32.not_lt.mpr (by assumption)) | exact rcnt_0 (fun zq => zq (by assumption))) (nI_1 p))
        · --f256
          refine g_iconst (n := 260) (v := 1) C dX11_count_259 rfl (by decide) ?_
          refine g_goto (t := 285) C dX11_count_260 (by decide) ?_
          refine g_iadd (n := 286) C dX11_count_285 rfl ?_
          refine g_istore_n (n := 287) C dX11_count_286 rfl (by decide) ?_
          refine g_iinc (n := 290) C dX11_count_287 rfl rfl rfl (by decide) ?_
          refine g_goto (t := 233) C dX11_count_290 (by decide) ?_
          exact g_lv [0, 1, 2, 3] rfl (ihp (i_lt (n := 96) rfl zc236 hlep (by omega)) _ _ (by rw [ev]; first | exact rcnt_1 (by assumption) | exact rcnt_0 (by assumption) | exact rcnt_1 (Int32.not_le.mp (by assumption)) | exact rcnt_0 (Int32.not_lt.mpr (by assumption)) | exact rcnt_0 (fun zq => zq (by assumption))) (nI_1 p))
    exact g_lv [0, 1, 2, 3] rfl (lp 0 (Nat.zero_le _) _ _ rfl rfl)
  refine g_case (v := 14) (fun zc8_14 => ?_) (fun zc8_14 => ?_)
  · --case 14
    refine g_tableIn (t := 231) C dX11_count_8 (by decide) (by decide) (by rfl) (by decide) ?_
    refine g_iconst (n := 232) (v := 0) C dX11_count_231 rfl (by decide) ?_
    refine g_istore_n (n := 233) C dX11_count_232 rfl (by decide) ?_
    have lp : ∀ p : Nat, p ≤ 96 → ∀ (v t : Int32), v = rcnt (fun s => rhigh (F 2) A (nI s) n < rlow (F 2) A (nI s) n) p → t = nI p → G K E 4 (QM K E (some .int) 0 0 P) 0 0 233 [(0, .ref o), (1, .int w), (2, .int v), (3, .int t)] [] (mh E o ad (upd F 0 0) A h) := by
      refine loopN (fun p => ∀ (v t : Int32), v = rcnt (fun s => rhigh (F 2) A (nI s) n < rlow (F 2) A (nI s) n) p → t = nI p → G K E 4 (QM K E (some .int) 0 0 P) 0 0 233 [(0, .ref o), (1, .int w), (2, .int v), (3, .int t)] [] (mh E o ad (upd F 0 0) A h)) (96) ?_
      intro p hlep ihp v t ev et
      subst et
      refine g_iload_n (n := 234) C dX11_count_233 rfl rfl ?_
      refine g_bipush (n := 236) (v := 96) C dX11_count_234 rfl (by decide) ?_
      refine g_icmp_ge (n := 239) (t := 293) C dX11_count_236 rfl (by decide) (fun zc236 => ?_) (fun zc236 => ?_)
      · --t236
        refine g_iload_n (n := 294) C dX11_count_293 rfl rfl ?_
        refine g_iret C dX11_count_294 (by decide) (by decide) ?_
        have ep : p = 96 := i_eq (n := 96) rfl zc236 hlep (by omega)
        subst ep
        rw [ev]
        exact k14 zc8_14
      · --f236
        refine g_iload_n (n := 240) C dX11_count_239 rfl rfl ?_
        refine g_iload_n (n := 241) C dX11_count_240 rfl rfl ?_
        refine g_bipush (n := 243) (v := 13) C dX11_count_241 rfl (by decide) ?_
        refine g_icmp_ne (n := 246) (t := 267) C dX11_count_243 rfl (by decide) (fun zc243 => ?_) (fun zc243 => ?_)
        rotate_left
        · exact absurd zc243 zc8_13
        refine g_aload_n (n := 268) C dX11_count_267 rfl rfl ?_
        refine g_iload_n (n := 269) C dX11_count_268 rfl rfl ?_
        refine g_callV (n := 272) (As := [.int _]) C dX11_count_269 rfl mw_X11_low w_1313 (g_recv C mh_o rfl) rfl rfl (room hR rfl) (ct_low I hn hn3 ?_)
        refine g_aload_n (n := 273) C dX11_count_272 rfl rfl ?_
        refine g_iload_n (n := 274) C dX11_count_273 rfl rfl ?_
        refine g_callV (n := 277) (As := [.int _]) C dX11_count_274 rfl mw_X11_high w_1317 (g_recv C mh_o rfl) rfl rfl (room hR rfl) (ct_high I hn hn3 ?_)
        refine g_icmp_le (n := 280) (t := 284) C dX11_count_277 rfl (by decide) (fun zc277 => ?_) (fun zc277 => ?_)
        · --t277
          refine g_iconst (n := 285) (v := 0) C dX11_count_284 rfl (by decide) ?_
          refine g_iadd (n := 286) C dX11_count_285 rfl ?_
          refine g_istore_n (n := 287) C dX11_count_286 rfl (by decide) ?_
          refine g_iinc (n := 290) C dX11_count_287 rfl rfl rfl (by decide) ?_
          refine g_goto (t := 233) C dX11_count_290 (by decide) ?_
          exact g_lv [0, 1, 2, 3] rfl (ihp (i_lt (n := 96) rfl zc236 hlep (by omega)) _ _ (by rw [ev]; first | exact rcnt_1 (by assumption) | exact rcnt_0 (by assumption) | exact rcnt_1 (Int32.not_le.mp (by assumption)) | exact rcnt_0 (Int32.not_lt.mpr (by assumption)) | exact rcnt_0 (fun zq => zq (by assumption))) (nI_1 p))
        · --f277
          refine g_iconst (n := 281) (v := 1) C dX11_count_280 rfl (by decide) ?_
          refine g_goto (t := 285) C dX11_count_281 (by decide) ?_
          refine g_iadd (n := 286) C dX11_count_285 rfl ?_
          refine g_istore_n (n := 287) C dX11_count_286 rfl (by decide) ?_
          refine g_iinc (n := 290) C dX11_count_287 rfl rfl rfl (by decide) ?_
          refine g_goto (t := 233) C dX11_count_290 (by decide) ?_
          exact g_lv [0, 1, 2, 3] rfl (ihp (i_lt (n := 96) rfl zc236 hlep (by omega)) _ _ (by rw [ev]; first | exact rcnt_1 (by assumption) | exact rcnt_0 (by assumption) | exact rcnt_1 (Int32.not_le.mp (by assumption)) | exact rcnt_0 (Int32.not_lt.mpr (by assumption)) | exact rcnt_0 (fun zq => zq (by assumption))) (nI_1 p))
    exact g_lv [0, 1, 2, 3] rfl (lp 0 (Nat.zero_le _) _ _ rfl rfl)
  refine g_tableOut (t := 295) C dX11_count_8 (by first | exact g_tout15 zc8_0 zc8_1 zc8_2 zc8_3 zc8_4 zc8_5 zc8_6 zc8_7 zc8_8 zc8_9 zc8_10 zc8_11 zc8_12 zc8_13 zc8_14) (by decide) ?_
  refine g_iconst (n := 296) (v := (-1)) C dX11_count_295 rfl (by decide) ?_
  refine g_iret C dX11_count_296 (by decide) (by decide) ?_
  exact k15 zc8_0 zc8_1 zc8_2 zc8_3 zc8_4 zc8_5 zc8_6 zc8_7 zc8_8 zc8_9 zc8_10 zc8_11 zc8_12 zc8_13 zc8_14
