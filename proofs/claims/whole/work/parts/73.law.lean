theorem mw_L_step : mwSW yL_step cL_step 3 (some .int) [(0, 5, 8, 13)] 2 := ⟨w_415, w_33, w_416, by decide, by decide, by decide +kernel⟩
theorem mw_L_days : mwSW yL_days cL_days 4 (some .int) [(0, 9, 12, 13)] 3 := ⟨w_869, w_33, w_870, by decide, by decide, by decide +kernel⟩
theorem mw_L_lay : mwSW yL_lay cL_lay 4 (some .int) [(0, 9, 12, 13)] 3 := ⟨w_988, w_33, w_989, by decide, by decide, by decide +kernel⟩
theorem mw_L_rough : mwSW yL_rough cL_rough 4 (some .int) [(0, 6, 9, 13)] 3 := ⟨w_1067, w_33, w_1068, by decide, by decide, by decide +kernel⟩
theorem mw_L_sink : mwSW yL_sink cL_sink 4 (some .int) [(0, 9, 12, 26), (0, 9, 15, 28)] 3 := ⟨w_696, w_33, w_697, by decide, by decide, by decide +kernel⟩
theorem mw_L_span : mwSW yL_span cL_span 5 (some .int) [(0, 10, 13, 26)] 4 := ⟨w_881, w_33, w_882, by decide, by decide, by decide +kernel⟩
theorem mw_L_wash : mwSW yL_wash cL_wash 5 (some .int) [(0, 17, 20, 26), (0, 17, 24, 13)] 4 := ⟨w_837, w_33, w_838, by decide, by decide, by decide +kernel⟩
theorem mw_L_fill : mwSW yL_fill cL_fill 4 (some .int) [(0, 16, 19, 26)] 3 := ⟨w_858, w_33, w_859, by decide, by decide, by decide +kernel⟩
theorem mw_L_look : mwSW yL_look cL_look 5 (some .int) [(0, 10, 13, 26), (0, 10, 17, 49)] 4 := ⟨w_897, w_33, w_898, by decide, by decide, by decide +kernel⟩
theorem mw_L_stone : mwSW yL_stone cL_stone 5 (some .int) [(0, 10, 13, 26), (0, 10, 17, 13), (0, 10, 21, 54), (0, 10, 25, 28)] 4 := ⟨w_922, w_33, w_923, by decide, by decide, by decide +kernel⟩
theorem mw_L_hand : mwSW yL_hand cL_hand 6 (some .int) [(0, 19, 22, 26), (0, 19, 26, 13)] 5 := ⟨w_1002, w_33, w_1003, by decide, by decide, by decide +kernel⟩
theorem mw_L_part : mwSW yL_part cL_part 5 (some .int) [(0, 10, 13, 26), (0, 10, 17, 49)] 4 := ⟨w_1059, w_33, w_1060, by decide, by decide, by decide +kernel⟩
theorem mw_L_sell : mwSW yL_sell cL_sell 5 (some .int) [(0, 10, 13, 26), (0, 10, 17, 13)] 4 := ⟨w_1033, w_33, w_1034, by decide, by decide, by decide +kernel⟩
theorem mw_L_flaw : mwSW yL_flaw cL_flaw 6 (some .int) [(0, 19, 22, 26)] 5 := ⟨w_1079, w_33, w_1080, by decide, by decide, by decide +kernel⟩
theorem mw_L_law : mwSW yL_law cL_law 3 (some .int) [(0, 8, 11, 13)] 2 := ⟨w_503, w_33, w_504, by decide, by decide, by decide +kernel⟩
theorem mw_L_agreement : mwSW yL_agreement cL_agreement 3 (some .int) [(0, 8, 11, 13)] 2 := ⟨w_682, w_33, w_683, by decide, by decide, by decide +kernel⟩
/-! THE LAW'S OWN BODY: the script, the room, its cases -/
def SX (K : Cx) (E : Ev) (b L : Nat) (xs : Nat → Int32) : Prop := va_X b L xs (ks K) (ks K).heap ∧ b < (ks K).heap.size ∧ ¬ eA E b
section KIT8
variable {K : Cx} {E : Ev} {cc : ByteArray} {nL : Nat} {own : String} {ret : Option FieldType} {nm : String} {Q : State → Prop} {cs ss pc : Nat} {lv : List (Nat × Value)} {st : List Value} {h : AH} {b L : Nat} {xs : Nat → Int32}
theorem g_sld {n : Nat} (C : GX K E cc nL own ret nm) (S : SX K E b L xs) {i : Int32} (hd : decode cc pc = .ok (.iaload, 1)) (hn : pc + 1 = n) (hin : vp_in i L) (k : G K E nL Q cs ss n lv (.int (xs i.toNatClampNeg) :: st) h) : G K E nL Q cs ss pc lv (.int i :: .ref b :: st) h := fun H locs ls hH hS hL =>
  va_sld C.1 C.2.1 S.1 S.2.1 S.2.2 hS hin hd (by rw [hn]; exact k H locs ls hH hS hL)
theorem g_slen {n : Nat} (C : GX K E cc nL own ret nm) (S : SX K E b L xs) (hd : decode cc pc = .ok (.arraylength, 1)) (hn : pc + 1 = n) (k : G K E nL Q cs ss n lv (.int (nI L) :: st) h) : G K E nL Q cs ss pc lv (.ref b :: st) h := fun H locs ls hH hS hL =>
  va_slen C.1 C.2.1 S.1 S.2.1 S.2.2 hS hd (by rw [hn]; exact k H locs ls hH hS hL)
theorem lroom (hK : kR K = room_1) (hc : cs + 50 ≤ 601024) (hs : ss + 15000 ≤ 7293034) {fr lo mc ms maxL : Nat} {rest : List Value} (h : fr ≤ 13 ∧ 8 + (maxL + 11) + lo ≤ 522 ∧ mc ≤ 50 ∧ ms ≤ 15000 ∧ (rest.map fun v => v.category).sum ≤ 8) : roomOK K cs ss fr lo mc ms maxL rest := by
  unfold roomOK
  rw [hK]
  obtain ⟨h1, h2, h3, h4, h5⟩ := h
  refine ⟨?_, ?_, ?_, ?_, h5⟩
  · show fr + 1 ≤ 14; omega
  · show _ ≤ 522; omega
  · show _ ≤ 601024; omega
  · show _ ≤ 7293034; omega
end KIT8
theorem lg_same (a : Int64) : lg_cmp a a = 0 := by
  unfold lg_cmp
  rw [if_neg (show ¬ a > a from Int64.lt_irrefl), if_pos rfl]
theorem s_in {L i : Nat} (c : Nat) (hL : L ≤ 3072) (hi : i + 6 ≤ L) (hc : c < 6) : vp_in (nI i + nI c) L := by
  rw [nI_add i c]
  exact vp_in_nI (by omega) (by omega)
theorem s_in0 {L i : Nat} (hL : L ≤ 3072) (hi : i + 6 ≤ L) : vp_in (nI i) L := vp_in_nI (by omega) (by omega)
theorem dL_law__148 : decode cL_law_ 148 = .ok (.aload_n 1, 1) := by decide +kernel
theorem dL_law__149 : decode cL_law_ 149 = .ok (.aload_n 0, 1) := by decide +kernel
theorem dL_law__150 : decode cL_law_ 150 = .ok (.iload 4, 2) := by decide +kernel
theorem dL_law__152 : decode cL_law_ 152 = .ok (.iconst 1, 1) := by decide +kernel
theorem dL_law__153 : decode cL_law_ 153 = .ok (.iadd, 1) := by decide +kernel
theorem dL_law__154 : decode cL_law_ 154 = .ok (.iaload, 1) := by decide +kernel
theorem dL_law__155 : decode cL_law_ 155 = .ok (.aload_n 0, 1) := by decide +kernel
theorem dL_law__156 : decode cL_law_ 156 = .ok (.iload 4, 2) := by decide +kernel
theorem dL_law__158 : decode cL_law_ 158 = .ok (.iconst 2, 1) := by decide +kernel
theorem dL_law__159 : decode cL_law_ 159 = .ok (.iadd, 1) := by decide +kernel
theorem dL_law__160 : decode cL_law_ 160 = .ok (.iaload, 1) := by decide +kernel
theorem dL_law__161 : decode cL_law_ 161 = .ok (.aload_n 0, 1) := by decide +kernel
theorem dL_law__162 : decode cL_law_ 162 = .ok (.iload 4, 2) := by decide +kernel
theorem dL_law__164 : decode cL_law_ 164 = .ok (.iconst 3, 1) := by decide +kernel
theorem dL_law__165 : decode cL_law_ 165 = .ok (.iadd, 1) := by decide +kernel
theorem dL_law__166 : decode cL_law_ 166 = .ok (.iaload, 1) := by decide +kernel
theorem dL_law__167 : decode cL_law_ 167 = .ok (.aload_n 0, 1) := by decide +kernel
theorem dL_law__168 : decode cL_law_ 168 = .ok (.iload 4, 2) := by decide +kernel
theorem dL_law__170 : decode cL_law_ 170 = .ok (.iconst 4, 1) := by decide +kernel
theorem dL_law__171 : decode cL_law_ 171 = .ok (.iadd, 1) := by decide +kernel
theorem dL_law__172 : decode cL_law_ 172 = .ok (.iaload, 1) := by decide +kernel
theorem dL_law__173 : decode cL_law_ 173 = .ok (.aload_n 0, 1) := by decide +kernel
theorem dL_law__174 : decode cL_law_ 174 = .ok (.iload 4, 2) := by decide +kernel
theorem dL_law__176 : decode cL_law_ 176 = .ok (.iconst 5, 1) := by decide +kernel
theorem dL_law__177 : decode cL_law_ 177 = .ok (.iadd, 1) := by decide +kernel
theorem dL_law__178 : decode cL_law_ 178 = .ok (.iaload, 1) := by decide +kernel
theorem dL_law__179 : decode cL_law_ 179 = .ok (.invokevirtual 81, 3) := by decide +kernel
theorem dL_law__182 : decode cL_law_ 182 = .ok (.aload_n 2, 1) := by decide +kernel
theorem dL_law__183 : decode cL_law_ 183 = .ok (.aload_n 0, 1) := by decide +kernel
theorem dL_law__184 : decode cL_law_ 184 = .ok (.iload 4, 2) := by decide +kernel
theorem dL_law__186 : decode cL_law_ 186 = .ok (.iconst 1, 1) := by decide +kernel
theorem dL_law__187 : decode cL_law_ 187 = .ok (.iadd, 1) := by decide +kernel
theorem dL_law__188 : decode cL_law_ 188 = .ok (.iaload, 1) := by decide +kernel
theorem dL_law__189 : decode cL_law_ 189 = .ok (.aload_n 0, 1) := by decide +kernel
theorem dL_law__190 : decode cL_law_ 190 = .ok (.iload 4, 2) := by decide +kernel
theorem dL_law__192 : decode cL_law_ 192 = .ok (.iconst 2, 1) := by decide +kernel
theorem dL_law__193 : decode cL_law_ 193 = .ok (.iadd, 1) := by decide +kernel
theorem dL_law__194 : decode cL_law_ 194 = .ok (.iaload, 1) := by decide +kernel
theorem dL_law__195 : decode cL_law_ 195 = .ok (.aload_n 0, 1) := by decide +kernel
theorem dL_law__196 : decode cL_law_ 196 = .ok (.iload 4, 2) := by decide +kernel
theorem dL_law__198 : decode cL_law_ 198 = .ok (.iconst 3, 1) := by decide +kernel
theorem dL_law__199 : decode cL_law_ 199 = .ok (.iadd, 1) := by decide +kernel
theorem dL_law__200 : decode cL_law_ 200 = .ok (.iaload, 1) := by decide +kernel
theorem dL_law__201 : decode cL_law_ 201 = .ok (.aload_n 0, 1) := by decide +kernel
theorem dL_law__202 : decode cL_law_ 202 = .ok (.iload 4, 2) := by decide +kernel
theorem dL_law__204 : decode cL_law_ 204 = .ok (.iconst 4, 1) := by decide +kernel
theorem dL_law__205 : decode cL_law_ 205 = .ok (.iadd, 1) := by decide +kernel
theorem dL_law__206 : decode cL_law_ 206 = .ok (.iaload, 1) := by decide +kernel
theorem dL_law__207 : decode cL_law_ 207 = .ok (.aload_n 0, 1) := by decide +kernel
theorem dL_law__208 : decode cL_law_ 208 = .ok (.iload 4, 2) := by decide +kernel
theorem dL_law__210 : decode cL_law_ 210 = .ok (.iconst 5, 1) := by decide +kernel
theorem dL_law__211 : decode cL_law_ 211 = .ok (.iadd, 1) := by decide +kernel
theorem dL_law__212 : decode cL_law_ 212 = .ok (.iaload, 1) := by decide +kernel
theorem dL_law__213 : decode cL_law_ 213 = .ok (.invokevirtual 85, 3) := by decide +kernel
theorem dL_law__216 : decode cL_law_ 216 = .ok (.if_icmp .eq 1131, 3) := by decide +kernel
set_option maxHeartbeats 2000000 in
set_option maxRecDepth 20000 in
theorem sg_feed {K : Cx} {E : Ev} {nm : String} {Q : State → Prop} {cs ss sa x o ou i L n m : Nat} {xs : Nat → Int32} {F : Nat → Int32} {A : Nat → Nat → Int32} {h : AH} (C : GX K E cL_law_ 7 RL (some .boolean) nm) (hK : kR K = room_1) (hl9 : (kl K).stackTraces = false) (S : SX K E sa L xs) (hL : L ≤ 3072) (hi : i + 6 ≤ L) (hc : cs + 100 ≤ 601024) (hs : ss + 20000 ≤ 7293034) (I : WI E x o ou F A n m F A h) (kn : ∀ F9 A9 n9 m9 h9, WI E x o ou F9 A9 n9 m9 F9 A9 h9 → G K E 7 Q (cs + 8) (ss + 200) 1347 [(0, .ref sa), (1, .ref x), (2, .ref o), (3, .ref ou), (4, .int (nI i))] [] h9) : G K E 7 Q cs ss 148 [(0, .ref sa), (1, .ref x), (2, .ref o), (3, .ref ou), (4, .int (nI i))] [] h := by
  refine g_aload_n (n := 149) C dL_law__148 rfl rfl ?_
  refine g_aload_n (n := 150) C dL_law__149 rfl rfl ?_
  refine g_iload (n := 152) C dL_law__150 rfl rfl ?_
  refine g_iconst (n := 153) (v := 1) C dL_law__152 rfl (by decide) ?_
  refine g_iadd (n := 154) C dL_law__153 rfl ?_
  refine g_sld (n := 155) C S dL_law__154 rfl (s_in 1 hL hi (by decide)) ?_
  refine g_aload_n (n := 156) C dL_law__155 rfl rfl ?_
  refine g_iload (n := 158) C dL_law__156 rfl rfl ?_
  refine g_iconst (n := 159) (v := 2) C dL_law__158 rfl (by decide) ?_
  refine g_iadd (n := 160) C dL_law__159 rfl ?_
  refine g_sld (n := 161) C S dL_law__160 rfl (s_in 2 hL hi (by decide)) ?_
  refine g_aload_n (n := 162) C dL_law__161 rfl rfl ?_
  refine g_iload (n := 164) C dL_law__162 rfl rfl ?_
  refine g_iconst (n := 165) (v := 3) C dL_law__164 rfl (by decide) ?_
  refine g_iadd (n := 166) C dL_law__165 rfl ?_
  refine g_sld (n := 167) C S dL_law__166 rfl (s_in 3 hL hi (by decide)) ?_
  refine g_aload_n (n := 168) C dL_law__167 rfl rfl ?_
  refine g_iload (n := 170) C dL_law__168 rfl rfl ?_
  refine g_iconst (n := 171) (v := 4) C dL_law__170 rfl (by decide) ?_
  refine g_iadd (n := 172) C dL_law__171 rfl ?_
  refine g_sld (n := 173) C S dL_law__172 rfl (s_in 4 hL hi (by decide)) ?_
  refine g_aload_n (n := 174) C dL_law__173 rfl rfl ?_
  refine g_iload (n := 176) C dL_law__174 rfl rfl ?_
  refine g_iconst (n := 177) (v := 5) C dL_law__176 rfl (by decide) ?_
  refine g_iadd (n := 178) C dL_law__177 rfl ?_
  refine g_sld (n := 179) C S dL_law__178 rfl (s_in 5 hL hi (by decide)) ?_
  obtain ⟨v, F9, A9, KP, hkp, hM, hr⟩ := oc_feed (x0 := (xs (nI i + 1).toNatClampNeg)) (x1 := (xs (nI i + 2).toNatClampNeg)) (x2 := (xs (nI i + 3).toNatClampNeg)) (x3 := (xs (nI i + 4).toNatClampNeg)) (x4 := (xs (nI i + 5).toNatClampNeg)) I
  obtain ⟨vs9, hx9⟩ := I.obj
  refine g_callV (n := 182) (As := [.int (xs (nI i + 1).toNatClampNeg), .int (xs (nI i + 2).toNatClampNeg), .int (xs (nI i + 3).toNatClampNeg), .int (xs (nI i + 4).toNatClampNeg), .int (xs (nI i + 5).toNatClampNeg)]) C dL_law__179 rfl mw_X10_feed w_250 (g_recv C hx9 rfl) rfl rfl (lroom hK (by omega) (by omega) ⟨by decide, by decide, by decide, by decide, Nat.le_of_ble_eq_true rfl⟩) (hM.mono (fun v1 h1 q9 => ?_))
  obtain ⟨rfl, w9⟩ := q9
  have w9 := w9.wo
  refine g_aload_n (n := 183) C dL_law__182 rfl rfl ?_
  refine g_aload_n (n := 184) C dL_law__183 rfl rfl ?_
  refine g_iload (n := 186) C dL_law__184 rfl rfl ?_
  refine g_iconst (n := 187) (v := 1) C dL_law__186 rfl (by decide) ?_
  refine g_iadd (n := 188) C dL_law__187 rfl ?_
  refine g_sld (n := 189) C S dL_law__188 rfl (s_in 1 hL hi (by decide)) ?_
  refine g_aload_n (n := 190) C dL_law__189 rfl rfl ?_
  refine g_iload (n := 192) C dL_law__190 rfl rfl ?_
  refine g_iconst (n := 193) (v := 2) C dL_law__192 rfl (by decide) ?_
  refine g_iadd (n := 194) C dL_law__193 rfl ?_
  refine g_sld (n := 195) C S dL_law__194 rfl (s_in 2 hL hi (by decide)) ?_
  refine g_aload_n (n := 196) C dL_law__195 rfl rfl ?_
  refine g_iload (n := 198) C dL_law__196 rfl rfl ?_
  refine g_iconst (n := 199) (v := 3) C dL_law__198 rfl (by decide) ?_
  refine g_iadd (n := 200) C dL_law__199 rfl ?_
  refine g_sld (n := 201) C S dL_law__200 rfl (s_in 3 hL hi (by decide)) ?_
  refine g_aload_n (n := 202) C dL_law__201 rfl rfl ?_
  refine g_iload (n := 204) C dL_law__202 rfl rfl ?_
  refine g_iconst (n := 205) (v := 4) C dL_law__204 rfl (by decide) ?_
  refine g_iadd (n := 206) C dL_law__205 rfl ?_
  refine g_sld (n := 207) C S dL_law__206 rfl (s_in 4 hL hi (by decide)) ?_
  refine g_aload_n (n := 208) C dL_law__207 rfl rfl ?_
  refine g_iload (n := 210) C dL_law__208 rfl rfl ?_
  refine g_iconst (n := 211) (v := 5) C dL_law__210 rfl (by decide) ?_
  refine g_iadd (n := 212) C dL_law__211 rfl ?_
  refine g_sld (n := 213) C S dL_law__212 rfl (s_in 5 hL hi (by decide)) ?_
  obtain ⟨adm, e9, hI9, hw9⟩ := w9.mh
  rw [e9]
  refine g_callV (n := 216) (As := [.int (xs (nI i + 1).toNatClampNeg), .int (xs (nI i + 2).toNatClampNeg), .int (xs (nI i + 3).toNatClampNeg), .int (xs (nI i + 4).toNatClampNeg), .int (xs (nI i + 5).toNatClampNeg)]) C dL_law__213 rfl mw_X11_feed w_1198 (g_recv C mh_o rfl) rfl rfl (lroom hK (by omega) (by omega) ⟨by decide, by decide, by decide, by decide, Nat.le_of_ble_eq_true rfl⟩) (hr adm h1 _ hI9 (fun B hB => ?_))
  have w8 := (hw9 F9 B).wi.keep (hkp B hB)
  refine g_icmp_eq (n := 219) (t := 1347) C dL_law__216 rfl (by decide) (fun _ => ?_) (fun zc => absurd rfl zc)
  exact g_lv [0, 1, 2, 3, 4] rfl (g_wide (by omega) (by omega) (kn _ _ _ _ _ w8))
theorem dL_law__221 : decode cL_law_ 221 = .ok (.aload_n 1, 1) := by decide +kernel
theorem dL_law__222 : decode cL_law_ 222 = .ok (.aload_n 0, 1) := by decide +kernel
theorem dL_law__223 : decode cL_law_ 223 = .ok (.iload 4, 2) := by decide +kernel
theorem dL_law__225 : decode cL_law_ 225 = .ok (.iconst 1, 1) := by decide +kernel
theorem dL_law__226 : decode cL_law_ 226 = .ok (.iadd, 1) := by decide +kernel
theorem dL_law__227 : decode cL_law_ 227 = .ok (.iaload, 1) := by decide +kernel
theorem dL_law__228 : decode cL_law_ 228 = .ok (.invokevirtual 86, 3) := by decide +kernel
theorem dL_law__231 : decode cL_law_ 231 = .ok (.aload_n 2, 1) := by decide +kernel
theorem dL_law__232 : decode cL_law_ 232 = .ok (.aload_n 0, 1) := by decide +kernel
theorem dL_law__233 : decode cL_law_ 233 = .ok (.iload 4, 2) := by decide +kernel
theorem dL_law__235 : decode cL_law_ 235 = .ok (.iconst 1, 1) := by decide +kernel
theorem dL_law__236 : decode cL_law_ 236 = .ok (.iadd, 1) := by decide +kernel
theorem dL_law__237 : decode cL_law_ 237 = .ok (.iaload, 1) := by decide +kernel
theorem dL_law__238 : decode cL_law_ 238 = .ok (.invokevirtual 89, 3) := by decide +kernel
theorem dL_law__241 : decode cL_law_ 241 = .ok (.if_icmp .eq 1106, 3) := by decide +kernel
set_option maxHeartbeats 2000000 in
set_option maxRecDepth 20000 in
theorem sg_end {K : Cx} {E : Ev} {nm : String} {Q : State → Prop} {cs ss sa x o ou i L n m : Nat} {xs : Nat → Int32} {F : Nat → Int32} {A : Nat → Nat → Int32} {h : AH} (C : GX K E cL_law_ 7 RL (some .boolean) nm) (hK : kR K = room_1) (hl9 : (kl K).stackTraces = false) (S : SX K E sa L xs) (hL : L ≤ 3072) (hi : i + 6 ≤ L) (hc : cs + 100 ≤ 601024) (hs : ss + 20000 ≤ 7293034) (I : WI E x o ou F A n m F A h) (kn : ∀ F9 A9 n9 m9 h9, WI E x o ou F9 A9 n9 m9 F9 A9 h9 → G K E 7 Q (cs + 8) (ss + 200) 1347 [(0, .ref sa), (1, .ref x), (2, .ref o), (3, .ref ou), (4, .int (nI i))] [] h9) : G K E 7 Q cs ss 221 [(0, .ref sa), (1, .ref x), (2, .ref o), (3, .ref ou), (4, .int (nI i))] [] h := by
  refine g_aload_n (n := 222) C dL_law__221 rfl rfl ?_
  refine g_aload_n (n := 223) C dL_law__222 rfl rfl ?_
  refine g_iload (n := 225) C dL_law__223 rfl rfl ?_
  refine g_iconst (n := 226) (v := 1) C dL_law__225 rfl (by decide) ?_
  refine g_iadd (n := 227) C dL_law__226 rfl ?_
  refine g_sld (n := 228) C S dL_law__227 rfl (s_in 1 hL hi (by decide)) ?_
  obtain ⟨v, F9, A9, KP, hkp, hM, hr⟩ := oc_end (n8 := (xs (nI i + 1).toNatClampNeg)) I
  obtain ⟨vs9, hx9⟩ := I.obj
  refine g_callV (n := 231) (As := [.int (xs (nI i + 1).toNatClampNeg)]) C dL_law__228 rfl mw_X10_end w_266 (g_recv C hx9 rfl) rfl rfl (lroom hK (by omega) (by omega) ⟨by decide, by decide, by decide, by decide, Nat.le_of_ble_eq_true rfl⟩) (hM.mono (fun v1 h1 q9 => ?_))
  obtain ⟨rfl, w9⟩ := q9
  have w9 := w9.wo
  refine g_aload_n (n := 232) C dL_law__231 rfl rfl ?_
  refine g_aload_n (n := 233) C dL_law__232 rfl rfl ?_
  refine g_iload (n := 235) C dL_law__233 rfl rfl ?_
  refine g_iconst (n := 236) (v := 1) C dL_law__235 rfl (by decide) ?_
  refine g_iadd (n := 237) C dL_law__236 rfl ?_
  refine g_sld (n := 238) C S dL_law__237 rfl (s_in 1 hL hi (by decide)) ?_
  obtain ⟨adm, e9, hI9, hw9⟩ := w9.mh
  rw [e9]
  refine g_callV (n := 241) (As := [.int (xs (nI i + 1).toNatClampNeg)]) C dL_law__238 rfl mw_X11_end w_1202 (g_recv C mh_o rfl) rfl rfl (lroom hK (by omega) (by omega) ⟨by decide, by decide, by decide, by decide, Nat.le_of_ble_eq_true rfl⟩) (hr adm h1 _ hI9 (fun B hB => ?_))
  have w8 := (hw9 F9 B).wi.keep (hkp B hB)
  refine g_icmp_eq (n := 244) (t := 1347) C dL_law__241 rfl (by decide) (fun _ => ?_) (fun zc => absurd rfl zc)
  exact g_lv [0, 1, 2, 3, 4] rfl (g_wide (by omega) (by omega) (kn _ _ _ _ _ w8))
theorem dL_law__246 : decode cL_law_ 246 = .ok (.aload_n 1, 1) := by decide +kernel
theorem dL_law__247 : decode cL_law_ 247 = .ok (.aload_n 0, 1) := by decide +kernel
theorem dL_law__248 : decode cL_law_ 248 = .ok (.iload 4, 2) := by decide +kernel
theorem dL_law__250 : decode cL_law_ 250 = .ok (.iconst 1, 1) := by decide +kernel
theorem dL_law__251 : decode cL_law_ 251 = .ok (.iadd, 1) := by decide +kernel
theorem dL_law__252 : decode cL_law_ 252 = .ok (.iaload, 1) := by decide +kernel
theorem dL_law__253 : decode cL_law_ 253 = .ok (.invokestatic 90, 3) := by decide +kernel
theorem dL_law__256 : decode cL_law_ 256 = .ok (.istore 5, 2) := by decide +kernel
theorem dL_law__258 : decode cL_law_ 258 = .ok (.aload_n 2, 1) := by decide +kernel
theorem dL_law__259 : decode cL_law_ 259 = .ok (.aload_n 0, 1) := by decide +kernel
theorem dL_law__260 : decode cL_law_ 260 = .ok (.iload 4, 2) := by decide +kernel
theorem dL_law__262 : decode cL_law_ 262 = .ok (.iconst 1, 1) := by decide +kernel
theorem dL_law__263 : decode cL_law_ 263 = .ok (.iadd, 1) := by decide +kernel
theorem dL_law__264 : decode cL_law_ 264 = .ok (.iaload, 1) := by decide +kernel
theorem dL_law__265 : decode cL_law_ 265 = .ok (.invokevirtual 95, 3) := by decide +kernel
theorem dL_law__268 : decode cL_law_ 268 = .ok (.aload_n 2, 1) := by decide +kernel
theorem dL_law__269 : decode cL_law_ 269 = .ok (.invokevirtual 96, 3) := by decide +kernel
theorem dL_law__272 : decode cL_law_ 272 = .ok (.iload 5, 2) := by decide +kernel
theorem dL_law__274 : decode cL_law_ 274 = .ok (.if_icmp .eq 5, 3) := by decide +kernel
theorem dL_law__279 : decode cL_law_ 279 = .ok (.goto 1068, 3) := by decide +kernel
set_option maxHeartbeats 2000000 in
set_option maxRecDepth 20000 in
theorem sg_step {K : Cx} {E : Ev} {nm : String} {Q : State → Prop} {cs ss sa x o ou i L n m : Nat} {xs : Nat → Int32} {F : Nat → Int32} {A : Nat → Nat → Int32} {h : AH} (C : GX K E cL_law_ 7 RL (some .boolean) nm) (hK : kR K = room_1) (hl9 : (kl K).stackTraces = false) (S : SX K E sa L xs) (hL : L ≤ 3072) (hi : i + 6 ≤ L) (hc : cs + 100 ≤ 601024) (hs : ss + 20000 ≤ 7293034) (I : WI E x o ou F A n m F A h) (kn : ∀ F9 A9 n9 m9 h9, WI E x o ou F9 A9 n9 m9 F9 A9 h9 → G K E 7 Q (cs + 8) (ss + 200) 1347 [(0, .ref sa), (1, .ref x), (2, .ref o), (3, .ref ou), (4, .int (nI i))] [] h9) : G K E 7 Q cs ss 246 [(0, .ref sa), (1, .ref x), (2, .ref o), (3, .ref ou), (4, .int (nI i))] [] h := by
  refine g_aload_n (n := 247) C dL_law__246 rfl rfl ?_
  refine g_aload_n (n := 248) C dL_law__247 rfl rfl ?_
  refine g_iload (n := 250) C dL_law__248 rfl rfl ?_
  refine g_iconst (n := 251) (v := 1) C dL_law__250 rfl (by decide) ?_
  refine g_iadd (n := 252) C dL_law__251 rfl ?_
  refine g_sld (n := 253) C S dL_law__252 rfl (s_in 1 hL hi (by decide)) ?_
  obtain ⟨k, v, F9, A9, n9, m9, hk, hM, hr⟩ := oc_step (s := (xs (nI i + 1).toNatClampNeg)) I hl9
  refine g_callSW (n := 256) (As := [.ref x, .int (xs (nI i + 1).toNatClampNeg)]) C dL_law__253 rfl mw_L_step w_414 rfl rfl (lroom hK (by omega) (by omega) ⟨by decide, by decide, by decide, by decide, Nat.le_of_ble_eq_true rfl⟩) (lw_step (v := v) I hM (fun h1 w9 => ?_))
  refine g_istore (n := 258) C dL_law__256 rfl (by decide) ?_
  refine g_aload_n (n := 259) C dL_law__258 rfl rfl ?_
  refine g_aload_n (n := 260) C dL_law__259 rfl rfl ?_
  refine g_iload (n := 262) C dL_law__260 rfl rfl ?_
  refine g_iconst (n := 263) (v := 1) C dL_law__262 rfl (by decide) ?_
  refine g_iadd (n := 264) C dL_law__263 rfl ?_
  refine g_sld (n := 265) C S dL_law__264 rfl (s_in 1 hL hi (by decide)) ?_
  obtain ⟨adm, e9, hI9, hw9⟩ := w9.mh
  rw [e9]
  refine g_callV (n := 268) (As := [.int (xs (nI i + 1).toNatClampNeg)]) C dL_law__265 rfl mw_X11_step w_1269 (g_recv C mh_o rfl) rfl rfl (lroom hK (by omega) (by omega) ⟨by decide, by decide, by decide, by decide, Nat.le_of_ble_eq_true rfl⟩) (hr adm h1 _ hI9 ?_)
  have w8 := hw9 F9 A9
  refine g_aload_n (n := 269) C dL_law__268 rfl rfl ?_
  refine g_callV (n := 272) (As := []) C dL_law__269 rfl mw_X11_thrown w_1194 (g_recv C mh_o rfl) rfl rfl (lroom hK (by omega) (by omega) ⟨by decide, by decide, by decide, by decide, Nat.le_of_ble_eq_true rfl⟩) (ct_thrown ?_)
  rw [hk]
  refine g_iload (n := 274) C dL_law__272 rfl rfl ?_
  refine g_icmp_eq (n := 277) (t := 279) C dL_law__274 rfl (by decide) (fun _ => ?_) (fun zc => absurd rfl zc)
  refine g_goto (t := 1347) C dL_law__279 (by decide) ?_
  exact g_lv [0, 1, 2, 3, 4] rfl (g_wide (by omega) (by omega) (kn _ _ _ _ _ w8.wi))
theorem dL_law__282 : decode cL_law_ 282 = .ok (.aload_n 1, 1) := by decide +kernel
theorem dL_law__283 : decode cL_law_ 283 = .ok (.aload_n 3, 1) := by decide +kernel
theorem dL_law__284 : decode cL_law_ 284 = .ok (.invokestatic 99, 3) := by decide +kernel
theorem dL_law__287 : decode cL_law_ 287 = .ok (.istore 5, 2) := by decide +kernel
theorem dL_law__289 : decode cL_law_ 289 = .ok (.aload_n 2, 1) := by decide +kernel
theorem dL_law__290 : decode cL_law_ 290 = .ok (.invokevirtual 102, 3) := by decide +kernel
theorem dL_law__293 : decode cL_law_ 293 = .ok (.istore 6, 2) := by decide +kernel
theorem dL_law__295 : decode cL_law_ 295 = .ok (.aload_n 2, 1) := by decide +kernel
theorem dL_law__296 : decode cL_law_ 296 = .ok (.invokevirtual 96, 3) := by decide +kernel
theorem dL_law__299 : decode cL_law_ 299 = .ok (.iload 5, 2) := by decide +kernel
theorem dL_law__301 : decode cL_law_ 301 = .ok (.if_icmp .eq 5, 3) := by decide +kernel
theorem dL_law__306 : decode cL_law_ 306 = .ok (.iload 5, 2) := by decide +kernel
theorem dL_law__308 : decode cL_law_ 308 = .ok (.ifCond .ne 15, 3) := by decide +kernel
theorem dL_law__311 : decode cL_law_ 311 = .ok (.aload_n 3, 1) := by decide +kernel
theorem dL_law__312 : decode cL_law_ 312 = .ok (.iconst 0, 1) := by decide +kernel
theorem dL_law__313 : decode cL_law_ 313 = .ok (.laload, 1) := by decide +kernel
theorem dL_law__314 : decode cL_law_ 314 = .ok (.iload 6, 2) := by decide +kernel
theorem dL_law__316 : decode cL_law_ 316 = .ok (.i2l, 1) := by decide +kernel
theorem dL_law__317 : decode cL_law_ 317 = .ok (.lcmp, 1) := by decide +kernel
theorem dL_law__318 : decode cL_law_ 318 = .ok (.ifCond .eq 5, 3) := by decide +kernel
theorem dL_law__323 : decode cL_law_ 323 = .ok (.goto 1024, 3) := by decide +kernel
set_option maxHeartbeats 2000000 in
set_option maxRecDepth 20000 in
theorem sg_law {K : Cx} {E : Ev} {nm : String} {Q : State → Prop} {cs ss sa x o ou i L n m : Nat} {xs : Nat → Int32} {F : Nat → Int32} {A : Nat → Nat → Int32} {h : AH} (C : GX K E cL_law_ 7 RL (some .boolean) nm) (hK : kR K = room_1) (hl9 : (kl K).stackTraces = false) (S : SX K E sa L xs) (hL : L ≤ 3072) (hi : i + 6 ≤ L) (hc : cs + 100 ≤ 601024) (hs : ss + 20000 ≤ 7293034) (I : WI E x o ou F A n m F A h) (kn : ∀ F9 A9 n9 m9 h9, WI E x o ou F9 A9 n9 m9 F9 A9 h9 → G K E 7 Q (cs + 8) (ss + 200) 1347 [(0, .ref sa), (1, .ref x), (2, .ref o), (3, .ref ou), (4, .int (nI i))] [] h9) : G K E 7 Q cs ss 282 [(0, .ref sa), (1, .ref x), (2, .ref o), (3, .ref ou), (4, .int (nI i))] [] h := by
  refine g_aload_n (n := 283) C dL_law__282 rfl rfl ?_
  refine g_aload_n (n := 284) C dL_law__283 rfl rfl ?_
  obtain ⟨k, v, F9, A9, n9, m9, hk, hM, hr⟩ := oc_law  I hl9
  refine g_callSW (n := 287) (As := [.ref x, .ref ou]) C dL_law__284 rfl mw_L_law w_502 rfl rfl (lroom hK (by omega) (by omega) ⟨by decide, by decide, by decide, by decide, Nat.le_of_ble_eq_true rfl⟩) (lw_law I hM (fun h1 w9 => ?_))
  refine g_istore (n := 289) C dL_law__287 rfl (by decide) ?_
  refine g_aload_n (n := 290) C dL_law__289 rfl rfl ?_
  obtain ⟨adm, e9, hI9, hw9⟩ := w9.mh
  rw [e9]
  refine g_callV (n := 293) (As := []) C dL_law__290 rfl mw_X11_law w_1206 (g_recv C mh_o rfl) rfl rfl (lroom hK (by omega) (by omega) ⟨by decide, by decide, by decide, by decide, Nat.le_of_ble_eq_true rfl⟩) (hr adm h1 _ hI9 ?_)
  have w8 := hw9 F9 A9
  refine g_istore (n := 295) C dL_law__293 rfl (by decide) ?_
  refine g_aload_n (n := 296) C dL_law__295 rfl rfl ?_
  refine g_callV (n := 299) (As := []) C dL_law__296 rfl mw_X11_thrown w_1194 (g_recv C mh_o rfl) rfl rfl (lroom hK (by omega) (by omega) ⟨by decide, by decide, by decide, by decide, Nat.le_of_ble_eq_true rfl⟩) (ct_thrown ?_)
  rw [hk]
  refine g_iload (n := 301) C dL_law__299 rfl rfl ?_
  refine g_icmp_eq (n := 304) (t := 306) C dL_law__301 rfl (by decide) (fun _ => ?_) (fun zc => absurd rfl zc)
  refine g_iload (n := 308) C dL_law__306 rfl rfl ?_
  refine g_if_ne (n := 311) (t := 323) C dL_law__308 rfl (by decide) (fun zck => ?_) (fun zck => ?_)
  · --k
    refine g_goto (t := 1347) C dL_law__323 (by decide) ?_
    exact g_lv [0, 1, 2, 3, 4] rfl (g_wide (by omega) (by omega) (kn _ _ _ _ _ w8.wi))
  · --k0
    refine g_aload_n (n := 312) C dL_law__311 rfl rfl ?_
    refine g_iconst (n := 313) (v := 0) C dL_law__312 rfl (by decide) ?_
    obtain ⟨O9, ho9, hp9⟩ := w8.row
    refine g_lald (n := 314) C dL_law__313 rfl ho9 (by unfold vp_in; decide) ?_
    rw [show O9 (Int32.toNatClampNeg 0) = _ from hp9 zck]
    refine g_iload (n := 316) C dL_law__314 rfl rfl ?_
    refine g_i2l (n := 317) C dL_law__316 rfl ?_
    refine g_lcmp (n := 318) C dL_law__317 rfl ?_
    rw [lg_same]
    refine g_if_eq (n := 321) (t := 323) C dL_law__318 rfl (by decide) (fun _ => ?_) (fun zc => absurd rfl zc)
    refine g_goto (t := 1347) C dL_law__323 (by decide) ?_
    exact g_lv [0, 1, 2, 3, 4] rfl (g_wide (by omega) (by omega) (kn _ _ _ _ _ w8.wi))
theorem dL_law__326 : decode cL_law_ 326 = .ok (.aload_n 1, 1) := by decide +kernel
theorem dL_law__327 : decode cL_law_ 327 = .ok (.aload_n 3, 1) := by decide +kernel
theorem dL_law__328 : decode cL_law_ 328 = .ok (.invokestatic 103, 3) := by decide +kernel
theorem dL_law__331 : decode cL_law_ 331 = .ok (.istore 5, 2) := by decide +kernel
theorem dL_law__333 : decode cL_law_ 333 = .ok (.aload_n 2, 1) := by decide +kernel
theorem dL_law__334 : decode cL_law_ 334 = .ok (.invokevirtual 105, 3) := by decide +kernel
theorem dL_law__337 : decode cL_law_ 337 = .ok (.istore 6, 2) := by decide +kernel
theorem dL_law__339 : decode cL_law_ 339 = .ok (.aload_n 2, 1) := by decide +kernel
theorem dL_law__340 : decode cL_law_ 340 = .ok (.invokevirtual 96, 3) := by decide +kernel
theorem dL_law__343 : decode cL_law_ 343 = .ok (.iload 5, 2) := by decide +kernel
theorem dL_law__345 : decode cL_law_ 345 = .ok (.if_icmp .eq 5, 3) := by decide +kernel
theorem dL_law__350 : decode cL_law_ 350 = .ok (.iload 5, 2) := by decide +kernel
theorem dL_law__352 : decode cL_law_ 352 = .ok (.ifCond .ne 15, 3) := by decide +kernel
theorem dL_law__355 : decode cL_law_ 355 = .ok (.aload_n 3, 1) := by decide +kernel
theorem dL_law__356 : decode cL_law_ 356 = .ok (.iconst 0, 1) := by decide +kernel
theorem dL_law__357 : decode cL_law_ 357 = .ok (.laload, 1) := by decide +kernel
theorem dL_law__358 : decode cL_law_ 358 = .ok (.iload 6, 2) := by decide +kernel
theorem dL_law__360 : decode cL_law_ 360 = .ok (.i2l, 1) := by decide +kernel
theorem dL_law__361 : decode cL_law_ 361 = .ok (.lcmp, 1) := by decide +kernel
theorem dL_law__362 : decode cL_law_ 362 = .ok (.ifCond .eq 5, 3) := by decide +kernel
theorem dL_law__367 : decode cL_law_ 367 = .ok (.goto 980, 3) := by decide +kernel
set_option maxHeartbeats 2000000 in
set_option maxRecDepth 20000 in
theorem sg_agreement {K : Cx} {E : Ev} {nm : String} {Q : State → Prop} {cs ss sa x o ou i L n m : Nat} {xs : Nat → Int32} {F : Nat → Int32} {A : Nat → Nat → Int32} {h : AH} (C : GX K E cL_law_ 7 RL (some .boolean) nm) (hK : kR K = room_1) (hl9 : (kl K).stackTraces = false) (S : SX K E sa L xs) (hL : L ≤ 3072) (hi : i + 6 ≤ L) (hc : cs + 100 ≤ 601024) (hs : ss + 20000 ≤ 7293034) (I : WI E x o ou F A n m F A h) (kn : ∀ F9 A9 n9 m9 h9, WI E x o ou F9 A9 n9 m9 F9 A9 h9 → G K E 7 Q (cs + 8) (ss + 200) 1347 [(0, .ref sa), (1, .ref x), (2, .ref o), (3, .ref ou), (4, .int (nI i))] [] h9) : G K E 7 Q cs ss 326 [(0, .ref sa), (1, .ref x), (2, .ref o), (3, .ref ou), (4, .int (nI i))] [] h := by
  refine g_aload_n (n := 327) C dL_law__326 rfl rfl ?_
  refine g_aload_n (n := 328) C dL_law__327 rfl rfl ?_
  obtain ⟨k, v, F9, A9, n9, m9, hk, hM, hr⟩ := oc_agreement  I hl9
  refine g_callSW (n := 331) (As := [.ref x, .ref ou]) C dL_law__328 rfl mw_L_agreement w_681 rfl rfl (lroom hK (by omega) (by omega) ⟨by decide, by decide, by decide, by decide, Nat.le_of_ble_eq_true rfl⟩) (lw_agreement I hM (fun h1 w9 => ?_))
  refine g_istore (n := 333) C dL_law__331 rfl (by decide) ?_
  refine g_aload_n (n := 334) C dL_law__333 rfl rfl ?_
  obtain ⟨adm, e9, hI9, hw9⟩ := w9.mh
  rw [e9]
  refine g_callV (n := 337) (As := []) C dL_law__334 rfl mw_X11_agreement w_1261 (g_recv C mh_o rfl) rfl rfl (lroom hK (by omega) (by omega) ⟨by decide, by decide, by decide, by decide, Nat.le_of_ble_eq_true rfl⟩) (hr adm h1 _ hI9 ?_)
  have w8 := hw9 F9 A9
  refine g_istore (n := 339) C dL_law__337 rfl (by decide) ?_
  refine g_aload_n (n := 340) C dL_law__339 rfl rfl ?_
  refine g_callV (n := 343) (As := []) C dL_law__340 rfl mw_X11_thrown w_1194 (g_recv C mh_o rfl) rfl rfl (lroom hK (by omega) (by omega) ⟨by decide, by decide, by decide, by decide, Nat.le_of_ble_eq_true rfl⟩) (ct_thrown ?_)
  rw [hk]
  refine g_iload (n := 345) C dL_law__343 rfl rfl ?_
  refine g_icmp_eq (n := 348) (t := 350) C dL_law__345 rfl (by decide) (fun _ => ?_) (fun zc => absurd rfl zc)
  refine g_iload (n := 352) C dL_law__350 rfl rfl ?_
  refine g_if_ne (n := 355) (t := 367) C dL_law__352 rfl (by decide) (fun zck => ?_) (fun zck => ?_)
  · --k
    refine g_goto (t := 1347) C dL_law__367 (by decide) ?_
    exact g_lv [0, 1, 2, 3, 4] rfl (g_wide (by omega) (by omega) (kn _ _ _ _ _ w8.wi))
  · --k0
    refine g_aload_n (n := 356) C dL_law__355 rfl rfl ?_
    refine g_iconst (n := 357) (v := 0) C dL_law__356 rfl (by decide) ?_
    obtain ⟨O9, ho9, hp9⟩ := w8.row
    refine g_lald (n := 358) C dL_law__357 rfl ho9 (by unfold vp_in; decide) ?_
    rw [show O9 (Int32.toNatClampNeg 0) = _ from hp9 zck]
    refine g_iload (n := 360) C dL_law__358 rfl rfl ?_
    refine g_i2l (n := 361) C dL_law__360 rfl ?_
    refine g_lcmp (n := 362) C dL_law__361 rfl ?_
    rw [lg_same]
    refine g_if_eq (n := 365) (t := 367) C dL_law__362 rfl (by decide) (fun _ => ?_) (fun zc => absurd rfl zc)
    refine g_goto (t := 1347) C dL_law__367 (by decide) ?_
    exact g_lv [0, 1, 2, 3, 4] rfl (g_wide (by omega) (by omega) (kn _ _ _ _ _ w8.wi))
theorem dL_law__370 : decode cL_law_ 370 = .ok (.aload_n 1, 1) := by decide +kernel
theorem dL_law__371 : decode cL_law_ 371 = .ok (.invokevirtual 106, 3) := by decide +kernel
theorem dL_law__374 : decode cL_law_ 374 = .ok (.aload_n 2, 1) := by decide +kernel
theorem dL_law__375 : decode cL_law_ 375 = .ok (.invokevirtual 109, 3) := by decide +kernel
theorem dL_law__378 : decode cL_law_ 378 = .ok (.if_icmp .eq 969, 3) := by decide +kernel
set_option maxHeartbeats 2000000 in
set_option maxRecDepth 20000 in
theorem sg_fault {K : Cx} {E : Ev} {nm : String} {Q : State → Prop} {cs ss sa x o ou i L n m : Nat} {xs : Nat → Int32} {F : Nat → Int32} {A : Nat → Nat → Int32} {h : AH} (C : GX K E cL_law_ 7 RL (some .boolean) nm) (hK : kR K = room_1) (hl9 : (kl K).stackTraces = false) (S : SX K E sa L xs) (hL : L ≤ 3072) (hi : i + 6 ≤ L) (hc : cs + 100 ≤ 601024) (hs : ss + 20000 ≤ 7293034) (I : WI E x o ou F A n m F A h) (kn : ∀ F9 A9 n9 m9 h9, WI E x o ou F9 A9 n9 m9 F9 A9 h9 → G K E 7 Q (cs + 8) (ss + 200) 1347 [(0, .ref sa), (1, .ref x), (2, .ref o), (3, .ref ou), (4, .int (nI i))] [] h9) : G K E 7 Q cs ss 370 [(0, .ref sa), (1, .ref x), (2, .ref o), (3, .ref ou), (4, .int (nI i))] [] h := by
  refine g_aload_n (n := 371) C dL_law__370 rfl rfl ?_
  obtain ⟨v, F9, A9, KP, hkp, hM, hr⟩ := oc_fault  I
  obtain ⟨vs9, hx9⟩ := I.obj
  refine g_callV (n := 374) (As := []) C dL_law__371 rfl mw_X10_fault w_274 (g_recv C hx9 rfl) rfl rfl (lroom hK (by omega) (by omega) ⟨by decide, by decide, by decide, by decide, Nat.le_of_ble_eq_true rfl⟩) (hM.mono (fun v1 h1 q9 => ?_))
  obtain ⟨rfl, w9⟩ := q9
  have w9 := w9.wo
  refine g_aload_n (n := 375) C dL_law__374 rfl rfl ?_
  obtain ⟨adm, e9, hI9, hw9⟩ := w9.mh
  rw [e9]
  refine g_callV (n := 378) (As := []) C dL_law__375 rfl mw_X11_fault w_1265 (g_recv C mh_o rfl) rfl rfl (lroom hK (by omega) (by omega) ⟨by decide, by decide, by decide, by decide, Nat.le_of_ble_eq_true rfl⟩) (hr adm h1 _ hI9 (fun B hB => ?_))
  have w8 := (hw9 F9 B).wi.keep (hkp B hB)
  refine g_icmp_eq (n := 381) (t := 1347) C dL_law__378 rfl (by decide) (fun _ => ?_) (fun zc => absurd rfl zc)
  exact g_lv [0, 1, 2, 3, 4] rfl (g_wide (by omega) (by omega) (kn _ _ _ _ _ w8))
theorem dL_law__383 : decode cL_law_ 383 = .ok (.aload_n 1, 1) := by decide +kernel
theorem dL_law__384 : decode cL_law_ 384 = .ok (.aload_n 0, 1) := by decide +kernel
theorem dL_law__385 : decode cL_law_ 385 = .ok (.iload 4, 2) := by decide +kernel
theorem dL_law__387 : decode cL_law_ 387 = .ok (.iconst 1, 1) := by decide +kernel
theorem dL_law__388 : decode cL_law_ 388 = .ok (.iadd, 1) := by decide +kernel
theorem dL_law__389 : decode cL_law_ 389 = .ok (.iaload, 1) := by decide +kernel
theorem dL_law__390 : decode cL_law_ 390 = .ok (.aload_n 3, 1) := by decide +kernel
theorem dL_law__391 : decode cL_law_ 391 = .ok (.invokestatic 110, 3) := by decide +kernel
theorem dL_law__394 : decode cL_law_ 394 = .ok (.istore 5, 2) := by decide +kernel
theorem dL_law__396 : decode cL_law_ 396 = .ok (.aload_n 2, 1) := by decide +kernel
theorem dL_law__397 : decode cL_law_ 397 = .ok (.aload_n 0, 1) := by decide +kernel
theorem dL_law__398 : decode cL_law_ 398 = .ok (.iload 4, 2) := by decide +kernel
theorem dL_law__400 : decode cL_law_ 400 = .ok (.iconst 1, 1) := by decide +kernel
theorem dL_law__401 : decode cL_law_ 401 = .ok (.iadd, 1) := by decide +kernel
theorem dL_law__402 : decode cL_law_ 402 = .ok (.iaload, 1) := by decide +kernel
theorem dL_law__403 : decode cL_law_ 403 = .ok (.invokevirtual 113, 3) := by decide +kernel
theorem dL_law__406 : decode cL_law_ 406 = .ok (.istore 6, 2) := by decide +kernel
theorem dL_law__408 : decode cL_law_ 408 = .ok (.aload_n 2, 1) := by decide +kernel
theorem dL_law__409 : decode cL_law_ 409 = .ok (.invokevirtual 96, 3) := by decide +kernel
theorem dL_law__412 : decode cL_law_ 412 = .ok (.iload 5, 2) := by decide +kernel
theorem dL_law__414 : decode cL_law_ 414 = .ok (.if_icmp .eq 5, 3) := by decide +kernel
theorem dL_law__419 : decode cL_law_ 419 = .ok (.iload 5, 2) := by decide +kernel
theorem dL_law__421 : decode cL_law_ 421 = .ok (.ifCond .ne 15, 3) := by decide +kernel
theorem dL_law__424 : decode cL_law_ 424 = .ok (.aload_n 3, 1) := by decide +kernel
theorem dL_law__425 : decode cL_law_ 425 = .ok (.iconst 0, 1) := by decide +kernel
theorem dL_law__426 : decode cL_law_ 426 = .ok (.laload, 1) := by decide +kernel
theorem dL_law__427 : decode cL_law_ 427 = .ok (.iload 6, 2) := by decide +kernel
theorem dL_law__429 : decode cL_law_ 429 = .ok (.i2l, 1) := by decide +kernel
theorem dL_law__430 : decode cL_law_ 430 = .ok (.lcmp, 1) := by decide +kernel
theorem dL_law__431 : decode cL_law_ 431 = .ok (.ifCond .eq 5, 3) := by decide +kernel
theorem dL_law__436 : decode cL_law_ 436 = .ok (.goto 911, 3) := by decide +kernel
set_option maxHeartbeats 2000000 in
set_option maxRecDepth 20000 in
theorem sg_sink {K : Cx} {E : Ev} {nm : String} {Q : State → Prop} {cs ss sa x o ou i L n m : Nat} {xs : Nat → Int32} {F : Nat → Int32} {A : Nat → Nat → Int32} {h : AH} (C : GX K E cL_law_ 7 RL (some .boolean) nm) (hK : kR K = room_1) (hl9 : (kl K).stackTraces = false) (S : SX K E sa L xs) (hL : L ≤ 3072) (hi : i + 6 ≤ L) (hc : cs + 100 ≤ 601024) (hs : ss + 20000 ≤ 7293034) (I : WI E x o ou F A n m F A h) (kn : ∀ F9 A9 n9 m9 h9, WI E x o ou F9 A9 n9 m9 F9 A9 h9 → G K E 7 Q (cs + 8) (ss + 200) 1347 [(0, .ref sa), (1, .ref x), (2, .ref o), (3, .ref ou), (4, .int (nI i))] [] h9) : G K E 7 Q cs ss 383 [(0, .ref sa), (1, .ref x), (2, .ref o), (3, .ref ou), (4, .int (nI i))] [] h := by
  refine g_aload_n (n := 384) C dL_law__383 rfl rfl ?_
  refine g_aload_n (n := 385) C dL_law__384 rfl rfl ?_
  refine g_iload (n := 387) C dL_law__385 rfl rfl ?_
  refine g_iconst (n := 388) (v := 1) C dL_law__387 rfl (by decide) ?_
  refine g_iadd (n := 389) C dL_law__388 rfl ?_
  refine g_sld (n := 390) C S dL_law__389 rfl (s_in 1 hL hi (by decide)) ?_
  refine g_aload_n (n := 391) C dL_law__390 rfl rfl ?_
  obtain ⟨k, v, F9, A9, n9, m9, hk, hM, hr⟩ := oc_sink (s := (xs (nI i + 1).toNatClampNeg)) I hl9
  refine g_callSW (n := 394) (As := [.ref x, .int (xs (nI i + 1).toNatClampNeg), .ref ou]) C dL_law__391 rfl mw_L_sink w_695 rfl rfl (lroom hK (by omega) (by omega) ⟨by decide, by decide, by decide, by decide, Nat.le_of_ble_eq_true rfl⟩) (lw_sink I hM (fun h1 w9 => ?_))
  refine g_istore (n := 396) C dL_law__394 rfl (by decide) ?_
  refine g_aload_n (n := 397) C dL_law__396 rfl rfl ?_
  refine g_aload_n (n := 398) C dL_law__397 rfl rfl ?_
  refine g_iload (n := 400) C dL_law__398 rfl rfl ?_
  refine g_iconst (n := 401) (v := 1) C dL_law__400 rfl (by decide) ?_
  refine g_iadd (n := 402) C dL_law__401 rfl ?_
  refine g_sld (n := 403) C S dL_law__402 rfl (s_in 1 hL hi (by decide)) ?_
  obtain ⟨adm, e9, hI9, hw9⟩ := w9.mh
  rw [e9]
  refine g_callV (n := 406) (As := [.int (xs (nI i + 1).toNatClampNeg)]) C dL_law__403 rfl mw_X11_sink w_1276 (g_recv C mh_o rfl) rfl rfl (lroom hK (by omega) (by omega) ⟨by decide, by decide, by decide, by decide, Nat.le_of_ble_eq_true rfl⟩) (hr adm h1 _ hI9 ?_)
  have w8 := hw9 F9 A9
  refine g_istore (n := 408) C dL_law__406 rfl (by decide) ?_
  refine g_aload_n (n := 409) C dL_law__408 rfl rfl ?_
  refine g_callV (n := 412) (As := []) C dL_law__409 rfl mw_X11_thrown w_1194 (g_recv C mh_o rfl) rfl rfl (lroom hK (by omega) (by omega) ⟨by decide, by decide, by decide, by decide, Nat.le_of_ble_eq_true rfl⟩) (ct_thrown ?_)
  rw [hk]
  refine g_iload (n := 414) C dL_law__412 rfl rfl ?_
  refine g_icmp_eq (n := 417) (t := 419) C dL_law__414 rfl (by decide) (fun _ => ?_) (fun zc => absurd rfl zc)
  refine g_iload (n := 421) C dL_law__419 rfl rfl ?_
  refine g_if_ne (n := 424) (t := 436) C dL_law__421 rfl (by decide) (fun zck => ?_) (fun zck => ?_)
  · --k
    refine g_goto (t := 1347) C dL_law__436 (by decide) ?_
    exact g_lv [0, 1, 2, 3, 4] rfl (g_wide (by omega) (by omega) (kn _ _ _ _ _ w8.wi))
  · --k0
    refine g_aload_n (n := 425) C dL_law__424 rfl rfl ?_
    refine g_iconst (n := 426) (v := 0) C dL_law__425 rfl (by decide) ?_
    obtain ⟨O9, ho9, hp9⟩ := w8.row
    refine g_lald (n := 427) C dL_law__426 rfl ho9 (by unfold vp_in; decide) ?_
    rw [show O9 (Int32.toNatClampNeg 0) = _ from hp9 zck]
    refine g_iload (n := 429) C dL_law__427 rfl rfl ?_
    refine g_i2l (n := 430) C dL_law__429 rfl ?_
    refine g_lcmp (n := 431) C dL_law__430 rfl ?_
    rw [lg_same]
    refine g_if_eq (n := 434) (t := 436) C dL_law__431 rfl (by decide) (fun _ => ?_) (fun zc => absurd rfl zc)
    refine g_goto (t := 1347) C dL_law__436 (by decide) ?_
    exact g_lv [0, 1, 2, 3, 4] rfl (g_wide (by omega) (by omega) (kn _ _ _ _ _ w8.wi))
theorem dL_law__439 : decode cL_law_ 439 = .ok (.aload_n 1, 1) := by decide +kernel
theorem dL_law__440 : decode cL_law_ 440 = .ok (.aload_n 0, 1) := by decide +kernel
theorem dL_law__441 : decode cL_law_ 441 = .ok (.iload 4, 2) := by decide +kernel
theorem dL_law__443 : decode cL_law_ 443 = .ok (.iconst 1, 1) := by decide +kernel
theorem dL_law__444 : decode cL_law_ 444 = .ok (.iadd, 1) := by decide +kernel
theorem dL_law__445 : decode cL_law_ 445 = .ok (.iaload, 1) := by decide +kernel
theorem dL_law__446 : decode cL_law_ 446 = .ok (.aload_n 0, 1) := by decide +kernel
theorem dL_law__447 : decode cL_law_ 447 = .ok (.iload 4, 2) := by decide +kernel
theorem dL_law__449 : decode cL_law_ 449 = .ok (.iconst 2, 1) := by decide +kernel
theorem dL_law__450 : decode cL_law_ 450 = .ok (.iadd, 1) := by decide +kernel
theorem dL_law__451 : decode cL_law_ 451 = .ok (.iaload, 1) := by decide +kernel
theorem dL_law__452 : decode cL_law_ 452 = .ok (.aload_n 3, 1) := by decide +kernel
theorem dL_law__453 : decode cL_law_ 453 = .ok (.invokestatic 114, 3) := by decide +kernel
theorem dL_law__456 : decode cL_law_ 456 = .ok (.istore 5, 2) := by decide +kernel
theorem dL_law__458 : decode cL_law_ 458 = .ok (.aload_n 2, 1) := by decide +kernel
theorem dL_law__459 : decode cL_law_ 459 = .ok (.aload_n 0, 1) := by decide +kernel
theorem dL_law__460 : decode cL_law_ 460 = .ok (.iload 4, 2) := by decide +kernel
theorem dL_law__462 : decode cL_law_ 462 = .ok (.iconst 1, 1) := by decide +kernel
theorem dL_law__463 : decode cL_law_ 463 = .ok (.iadd, 1) := by decide +kernel
theorem dL_law__464 : decode cL_law_ 464 = .ok (.iaload, 1) := by decide +kernel
theorem dL_law__465 : decode cL_law_ 465 = .ok (.aload_n 0, 1) := by decide +kernel
theorem dL_law__466 : decode cL_law_ 466 = .ok (.iload 4, 2) := by decide +kernel
theorem dL_law__468 : decode cL_law_ 468 = .ok (.iconst 2, 1) := by decide +kernel
theorem dL_law__469 : decode cL_law_ 469 = .ok (.iadd, 1) := by decide +kernel
theorem dL_law__470 : decode cL_law_ 470 = .ok (.iaload, 1) := by decide +kernel
theorem dL_law__471 : decode cL_law_ 471 = .ok (.invokevirtual 117, 3) := by decide +kernel
theorem dL_law__474 : decode cL_law_ 474 = .ok (.istore 6, 2) := by decide +kernel
theorem dL_law__476 : decode cL_law_ 476 = .ok (.aload_n 2, 1) := by decide +kernel
theorem dL_law__477 : decode cL_law_ 477 = .ok (.invokevirtual 96, 3) := by decide +kernel
theorem dL_law__480 : decode cL_law_ 480 = .ok (.iload 5, 2) := by decide +kernel
theorem dL_law__482 : decode cL_law_ 482 = .ok (.if_icmp .eq 5, 3) := by decide +kernel
theorem dL_law__487 : decode cL_law_ 487 = .ok (.iload 5, 2) := by decide +kernel
theorem dL_law__489 : decode cL_law_ 489 = .ok (.ifCond .ne 22, 3) := by decide +kernel
theorem dL_law__492 : decode cL_law_ 492 = .ok (.aload_n 3, 1) := by decide +kernel
theorem dL_law__493 : decode cL_law_ 493 = .ok (.iconst 0, 1) := by decide +kernel
theorem dL_law__494 : decode cL_law_ 494 = .ok (.laload, 1) := by decide +kernel
theorem dL_law__495 : decode cL_law_ 495 = .ok (.iload 6, 2) := by decide +kernel
theorem dL_law__497 : decode cL_law_ 497 = .ok (.ifCond .eq 7, 3) := by decide +kernel
theorem dL_law__500 : decode cL_law_ 500 = .ok (.lconst 1, 1) := by decide +kernel
theorem dL_law__501 : decode cL_law_ 501 = .ok (.goto 4, 3) := by decide +kernel
theorem dL_law__504 : decode cL_law_ 504 = .ok (.lconst 0, 1) := by decide +kernel
theorem dL_law__505 : decode cL_law_ 505 = .ok (.lcmp, 1) := by decide +kernel
theorem dL_law__506 : decode cL_law_ 506 = .ok (.ifCond .eq 5, 3) := by decide +kernel
theorem dL_law__511 : decode cL_law_ 511 = .ok (.goto 836, 3) := by decide +kernel
set_option maxHeartbeats 2000000 in
set_option maxRecDepth 20000 in
theorem sg_wash {K : Cx} {E : Ev} {nm : String} {Q : State → Prop} {cs ss sa x o ou i L n m : Nat} {xs : Nat → Int32} {F : Nat → Int32} {A : Nat → Nat → Int32} {h : AH} (C : GX K E cL_law_ 7 RL (some .boolean) nm) (hK : kR K = room_1) (hl9 : (kl K).stackTraces = false) (S : SX K E sa L xs) (hL : L ≤ 3072) (hi : i + 6 ≤ L) (hc : cs + 100 ≤ 601024) (hs : ss + 20000 ≤ 7293034) (I : WI E x o ou F A n m F A h) (kn : ∀ F9 A9 n9 m9 h9, WI E x o ou F9 A9 n9 m9 F9 A9 h9 → G K E 7 Q (cs + 8) (ss + 200) 1347 [(0, .ref sa), (1, .ref x), (2, .ref o), (3, .ref ou), (4, .int (nI i))] [] h9) : G K E 7 Q cs ss 439 [(0, .ref sa), (1, .ref x), (2, .ref o), (3, .ref ou), (4, .int (nI i))] [] h := by
  refine g_aload_n (n := 440) C dL_law__439 rfl rfl ?_
  refine g_aload_n (n := 441) C dL_law__440 rfl rfl ?_
  refine g_iload (n := 443) C dL_law__441 rfl rfl ?_
  refine g_iconst (n := 444) (v := 1) C dL_law__443 rfl (by decide) ?_
  refine g_iadd (n := 445) C dL_law__444 rfl ?_
  refine g_sld (n := 446) C S dL_law__445 rfl (s_in 1 hL hi (by decide)) ?_
  refine g_aload_n (n := 447) C dL_law__446 rfl rfl ?_
  refine g_iload (n := 449) C dL_law__447 rfl rfl ?_
  refine g_iconst (n := 450) (v := 2) C dL_law__449 rfl (by decide) ?_
  refine g_iadd (n := 451) C dL_law__450 rfl ?_
  refine g_sld (n := 452) C S dL_law__451 rfl (s_in 2 hL hi (by decide)) ?_
  refine g_aload_n (n := 453) C dL_law__452 rfl rfl ?_
  obtain ⟨k, v, F9, A9, n9, m9, hk, hM, hr⟩ := oc_wash (p := (xs (nI i + 1).toNatClampNeg)) (g := (xs (nI i + 2).toNatClampNeg)) I hl9
  refine g_callSW (n := 456) (As := [.ref x, .int (xs (nI i + 1).toNatClampNeg), .int (xs (nI i + 2).toNatClampNeg), .ref ou]) C dL_law__453 rfl mw_L_wash w_836 rfl rfl (lroom hK (by omega) (by omega) ⟨by decide, by decide, by decide, by decide, Nat.le_of_ble_eq_true rfl⟩) (lw_wash I hM (fun h1 w9 => ?_))
  refine g_istore (n := 458) C dL_law__456 rfl (by decide) ?_
  refine g_aload_n (n := 459) C dL_law__458 rfl rfl ?_
  refine g_aload_n (n := 460) C dL_law__459 rfl rfl ?_
  refine g_iload (n := 462) C dL_law__460 rfl rfl ?_
  refine g_iconst (n := 463) (v := 1) C dL_law__462 rfl (by decide) ?_
  refine g_iadd (n := 464) C dL_law__463 rfl ?_
  refine g_sld (n := 465) C S dL_law__464 rfl (s_in 1 hL hi (by decide)) ?_
  refine g_aload_n (n := 466) C dL_law__465 rfl rfl ?_
  refine g_iload (n := 468) C dL_law__466 rfl rfl ?_
  refine g_iconst (n := 469) (v := 2) C dL_law__468 rfl (by decide) ?_
  refine g_iadd (n := 470) C dL_law__469 rfl ?_
  refine g_sld (n := 471) C S dL_law__470 rfl (s_in 2 hL hi (by decide)) ?_
  obtain ⟨adm, e9, hI9, hw9⟩ := w9.mh
  rw [e9]
  refine g_callV (n := 474) (As := [.int (xs (nI i + 1).toNatClampNeg), .int (xs (nI i + 2).toNatClampNeg)]) C dL_law__471 rfl mw_X11_wash w_1292 (g_recv C mh_o rfl) rfl rfl (lroom hK (by omega) (by omega) ⟨by decide, by decide, by decide, by decide, Nat.le_of_ble_eq_true rfl⟩) (hr adm h1 _ hI9 ?_)
  have w8 := hw9 F9 A9
  refine g_istore (n := 476) C dL_law__474 rfl (by decide) ?_
  refine g_aload_n (n := 477) C dL_law__476 rfl rfl ?_
  refine g_callV (n := 480) (As := []) C dL_law__477 rfl mw_X11_thrown w_1194 (g_recv C mh_o rfl) rfl rfl (lroom hK (by omega) (by omega) ⟨by decide, by decide, by decide, by decide, Nat.le_of_ble_eq_true rfl⟩) (ct_thrown ?_)
  rw [hk]
  refine g_iload (n := 482) C dL_law__480 rfl rfl ?_
  refine g_icmp_eq (n := 485) (t := 487) C dL_law__482 rfl (by decide) (fun _ => ?_) (fun zc => absurd rfl zc)
  refine g_iload (n := 489) C dL_law__487 rfl rfl ?_
  refine g_if_ne (n := 492) (t := 511) C dL_law__489 rfl (by decide) (fun zck => ?_) (fun zck => ?_)
  · --k
    refine g_goto (t := 1347) C dL_law__511 (by decide) ?_
    exact g_lv [0, 1, 2, 3, 4] rfl (g_wide (by omega) (by omega) (kn _ _ _ _ _ w8.wi))
  · --k0
    refine g_aload_n (n := 493) C dL_law__492 rfl rfl ?_
    refine g_iconst (n := 494) (v := 0) C dL_law__493 rfl (by decide) ?_
    obtain ⟨O9, ho9, hp9⟩ := w8.row
    refine g_lald (n := 495) C dL_law__494 rfl ho9 (by unfold vp_in; decide) ?_
    rw [show O9 (Int32.toNatClampNeg 0) = _ from hp9 zck]
    refine g_iload (n := 497) C dL_law__495 rfl rfl ?_
    refine g_if_eq (n := 500) (t := 504) C dL_law__497 rfl (by decide) (fun zcv => ?_) (fun zcv => ?_)
    · --v0
      refine g_lconst (n := 505) (v := 0) C dL_law__504 rfl (by decide) ?_
      rw [if_pos zcv]
      refine g_lcmp (n := 506) C dL_law__505 rfl ?_
      rw [lg_same]
      refine g_if_eq (n := 509) (t := 511) C dL_law__506 rfl (by decide) (fun _ => ?_) (fun zc => absurd rfl zc)
      refine g_goto (t := 1347) C dL_law__511 (by decide) ?_
      exact g_lv [0, 1, 2, 3, 4] rfl (g_wide (by omega) (by omega) (kn _ _ _ _ _ w8.wi))
    · --v1
      refine g_lconst (n := 501) (v := 1) C dL_law__500 rfl (by decide) ?_
      refine g_goto (t := 505) C dL_law__501 (by decide) ?_
      rw [if_neg zcv]
      refine g_lcmp (n := 506) C dL_law__505 rfl ?_
      rw [lg_same]
      refine g_if_eq (n := 509) (t := 511) C dL_law__506 rfl (by decide) (fun _ => ?_) (fun zc => absurd rfl zc)
      refine g_goto (t := 1347) C dL_law__511 (by decide) ?_
      exact g_lv [0, 1, 2, 3, 4] rfl (g_wide (by omega) (by omega) (kn _ _ _ _ _ w8.wi))
theorem dL_law__514 : decode cL_law_ 514 = .ok (.aload_n 1, 1) := by decide +kernel
theorem dL_law__515 : decode cL_law_ 515 = .ok (.aload_n 0, 1) := by decide +kernel
theorem dL_law__516 : decode cL_law_ 516 = .ok (.iload 4, 2) := by decide +kernel
theorem dL_law__518 : decode cL_law_ 518 = .ok (.iconst 1, 1) := by decide +kernel
theorem dL_law__519 : decode cL_law_ 519 = .ok (.iadd, 1) := by decide +kernel
theorem dL_law__520 : decode cL_law_ 520 = .ok (.iaload, 1) := by decide +kernel
theorem dL_law__521 : decode cL_law_ 521 = .ok (.aload_n 3, 1) := by decide +kernel
theorem dL_law__522 : decode cL_law_ 522 = .ok (.invokestatic 118, 3) := by decide +kernel
theorem dL_law__525 : decode cL_law_ 525 = .ok (.istore 5, 2) := by decide +kernel
theorem dL_law__527 : decode cL_law_ 527 = .ok (.aload_n 2, 1) := by decide +kernel
theorem dL_law__528 : decode cL_law_ 528 = .ok (.aload_n 0, 1) := by decide +kernel
theorem dL_law__529 : decode cL_law_ 529 = .ok (.iload 4, 2) := by decide +kernel
theorem dL_law__531 : decode cL_law_ 531 = .ok (.iconst 1, 1) := by decide +kernel
theorem dL_law__532 : decode cL_law_ 532 = .ok (.iadd, 1) := by decide +kernel
theorem dL_law__533 : decode cL_law_ 533 = .ok (.iaload, 1) := by decide +kernel
theorem dL_law__534 : decode cL_law_ 534 = .ok (.invokevirtual 120, 3) := by decide +kernel
theorem dL_law__537 : decode cL_law_ 537 = .ok (.istore 6, 2) := by decide +kernel
theorem dL_law__539 : decode cL_law_ 539 = .ok (.aload_n 2, 1) := by decide +kernel
theorem dL_law__540 : decode cL_law_ 540 = .ok (.invokevirtual 96, 3) := by decide +kernel
theorem dL_law__543 : decode cL_law_ 543 = .ok (.iload 5, 2) := by decide +kernel
theorem dL_law__545 : decode cL_law_ 545 = .ok (.if_icmp .eq 5, 3) := by decide +kernel
theorem dL_law__550 : decode cL_law_ 550 = .ok (.iload 5, 2) := by decide +kernel
theorem dL_law__552 : decode cL_law_ 552 = .ok (.ifCond .ne 22, 3) := by decide +kernel
theorem dL_law__555 : decode cL_law_ 555 = .ok (.aload_n 3, 1) := by decide +kernel
theorem dL_law__556 : decode cL_law_ 556 = .ok (.iconst 0, 1) := by decide +kernel
theorem dL_law__557 : decode cL_law_ 557 = .ok (.laload, 1) := by decide +kernel
theorem dL_law__558 : decode cL_law_ 558 = .ok (.iload 6, 2) := by decide +kernel
theorem dL_law__560 : decode cL_law_ 560 = .ok (.ifCond .eq 7, 3) := by decide +kernel
theorem dL_law__563 : decode cL_law_ 563 = .ok (.lconst 1, 1) := by decide +kernel
theorem dL_law__564 : decode cL_law_ 564 = .ok (.goto 4, 3) := by decide +kernel
theorem dL_law__567 : decode cL_law_ 567 = .ok (.lconst 0, 1) := by decide +kernel
theorem dL_law__568 : decode cL_law_ 568 = .ok (.lcmp, 1) := by decide +kernel
theorem dL_law__569 : decode cL_law_ 569 = .ok (.ifCond .eq 5, 3) := by decide +kernel
theorem dL_law__574 : decode cL_law_ 574 = .ok (.goto 773, 3) := by decide +kernel
set_option maxHeartbeats 2000000 in
set_option maxRecDepth 20000 in
theorem sg_fill {K : Cx} {E : Ev} {nm : String} {Q : State → Prop} {cs ss sa x o ou i L n m : Nat} {xs : Nat → Int32} {F : Nat → Int32} {A : Nat → Nat → Int32} {h : AH} (C : GX K E cL_law_ 7 RL (some .boolean) nm) (hK : kR K = room_1) (hl9 : (kl K).stackTraces = false) (S : SX K E sa L xs) (hL : L ≤ 3072) (hi : i + 6 ≤ L) (hc : cs + 100 ≤ 601024) (hs : ss + 20000 ≤ 7293034) (I : WI E x o ou F A n m F A h) (kn : ∀ F9 A9 n9 m9 h9, WI E x o ou F9 A9 n9 m9 F9 A9 h9 → G K E 7 Q (cs + 8) (ss + 200) 1347 [(0, .ref sa), (1, .ref x), (2, .ref o), (3, .ref ou), (4, .int (nI i))] [] h9) : G K E 7 Q cs ss 514 [(0, .ref sa), (1, .ref x), (2, .ref o), (3, .ref ou), (4, .int (nI i))] [] h := by
  refine g_aload_n (n := 515) C dL_law__514 rfl rfl ?_
  refine g_aload_n (n := 516) C dL_law__515 rfl rfl ?_
  refine g_iload (n := 518) C dL_law__516 rfl rfl ?_
  refine g_iconst (n := 519) (v := 1) C dL_law__518 rfl (by decide) ?_
  refine g_iadd (n := 520) C dL_law__519 rfl ?_
  refine g_sld (n := 521) C S dL_law__520 rfl (s_in 1 hL hi (by decide)) ?_
  refine g_aload_n (n := 522) C dL_law__521 rfl rfl ?_
  obtain ⟨k, v, F9, A9, n9, m9, hk, hM, hr⟩ := oc_fill (p := (xs (nI i + 1).toNatClampNeg)) I hl9
  refine g_callSW (n := 525) (As := [.ref x, .int (xs (nI i + 1).toNatClampNeg), .ref ou]) C dL_law__522 rfl mw_L_fill w_857 rfl rfl (lroom hK (by omega) (by omega) ⟨by decide, by decide, by decide, by decide, Nat.le_of_ble_eq_true rfl⟩) (lw_fill I hM (fun h1 w9 => ?_))
  refine g_istore (n := 527) C dL_law__525 rfl (by decide) ?_
  refine g_aload_n (n := 528) C dL_law__527 rfl rfl ?_
  refine g_aload_n (n := 529) C dL_law__528 rfl rfl ?_
  refine g_iload (n := 531) C dL_law__529 rfl rfl ?_
  refine g_iconst (n := 532) (v := 1) C dL_law__531 rfl (by decide) ?_
  refine g_iadd (n := 533) C dL_law__532 rfl ?_
  refine g_sld (n := 534) C S dL_law__533 rfl (s_in 1 hL hi (by decide)) ?_
  obtain ⟨adm, e9, hI9, hw9⟩ := w9.mh
  rw [e9]
  refine g_callV (n := 537) (As := [.int (xs (nI i + 1).toNatClampNeg)]) C dL_law__534 rfl mw_X11_fill w_1300 (g_recv C mh_o rfl) rfl rfl (lroom hK (by omega) (by omega) ⟨by decide, by decide, by decide, by decide, Nat.le_of_ble_eq_true rfl⟩) (hr adm h1 _ hI9 ?_)
  have w8 := hw9 F9 A9
  refine g_istore (n := 539) C dL_law__537 rfl (by decide) ?_
  refine g_aload_n (n := 540) C dL_law__539 rfl rfl ?_
  refine g_callV (n := 543) (As := []) C dL_law__540 rfl mw_X11_thrown w_1194 (g_recv C mh_o rfl) rfl rfl (lroom hK (by omega) (by omega) ⟨by decide, by decide, by decide, by decide, Nat.le_of_ble_eq_true rfl⟩) (ct_thrown ?_)
  rw [hk]
  refine g_iload (n := 545) C dL_law__543 rfl rfl ?_
  refine g_icmp_eq (n := 548) (t := 550) C dL_law__545 rfl (by decide) (fun _ => ?_) (fun zc => absurd rfl zc)
  refine g_iload (n := 552) C dL_law__550 rfl rfl ?_
  refine g_if_ne (n := 555) (t := 574) C dL_law__552 rfl (by decide) (fun zck => ?_) (fun zck => ?_)
  · --k
    refine g_goto (t := 1347) C dL_law__574 (by decide) ?_
    exact g_lv [0, 1, 2, 3, 4] rfl (g_wide (by omega) (by omega) (kn _ _ _ _ _ w8.wi))
  · --k0
    refine g_aload_n (n := 556) C dL_law__555 rfl rfl ?_
    refine g_iconst (n := 557) (v := 0) C dL_law__556 rfl (by decide) ?_
    obtain ⟨O9, ho9, hp9⟩ := w8.row
    refine g_lald (n := 558) C dL_law__557 rfl ho9 (by unfold vp_in; decide) ?_
    rw [show O9 (Int32.toNatClampNeg 0) = _ from hp9 zck]
    refine g_iload (n := 560) C dL_law__558 rfl rfl ?_
    refine g_if_eq (n := 563) (t := 567) C dL_law__560 rfl (by decide) (fun zcv => ?_) (fun zcv => ?_)
    · --v0
      refine g_lconst (n := 568) (v := 0) C dL_law__567 rfl (by decide) ?_
      rw [if_pos zcv]
      refine g_lcmp (n := 569) C dL_law__568 rfl ?_
      rw [lg_same]
      refine g_if_eq (n := 572) (t := 574) C dL_law__569 rfl (by decide) (fun _ => ?_) (fun zc => absurd rfl zc)
      refine g_goto (t := 1347) C dL_law__574 (by decide) ?_
      exact g_lv [0, 1, 2, 3, 4] rfl (g_wide (by omega) (by omega) (kn _ _ _ _ _ w8.wi))
    · --v1
      refine g_lconst (n := 564) (v := 1) C dL_law__563 rfl (by decide) ?_
      refine g_goto (t := 568) C dL_law__564 (by decide) ?_
      rw [if_neg zcv]
      refine g_lcmp (n := 569) C dL_law__568 rfl ?_
      rw [lg_same]
      refine g_if_eq (n := 572) (t := 574) C dL_law__569 rfl (by decide) (fun _ => ?_) (fun zc => absurd rfl zc)
      refine g_goto (t := 1347) C dL_law__574 (by decide) ?_
      exact g_lv [0, 1, 2, 3, 4] rfl (g_wide (by omega) (by omega) (kn _ _ _ _ _ w8.wi))
theorem dL_law__577 : decode cL_law_ 577 = .ok (.aload_n 1, 1) := by decide +kernel
theorem dL_law__578 : decode cL_law_ 578 = .ok (.aload_n 0, 1) := by decide +kernel
theorem dL_law__579 : decode cL_law_ 579 = .ok (.iload 4, 2) := by decide +kernel
theorem dL_law__581 : decode cL_law_ 581 = .ok (.iconst 1, 1) := by decide +kernel
theorem dL_law__582 : decode cL_law_ 582 = .ok (.iadd, 1) := by decide +kernel
theorem dL_law__583 : decode cL_law_ 583 = .ok (.iaload, 1) := by decide +kernel
theorem dL_law__584 : decode cL_law_ 584 = .ok (.aload_n 3, 1) := by decide +kernel
theorem dL_law__585 : decode cL_law_ 585 = .ok (.invokestatic 121, 3) := by decide +kernel
theorem dL_law__588 : decode cL_law_ 588 = .ok (.istore 5, 2) := by decide +kernel
theorem dL_law__590 : decode cL_law_ 590 = .ok (.aload_n 2, 1) := by decide +kernel
theorem dL_law__591 : decode cL_law_ 591 = .ok (.aload_n 0, 1) := by decide +kernel
theorem dL_law__592 : decode cL_law_ 592 = .ok (.iload 4, 2) := by decide +kernel
theorem dL_law__594 : decode cL_law_ 594 = .ok (.iconst 1, 1) := by decide +kernel
theorem dL_law__595 : decode cL_law_ 595 = .ok (.iadd, 1) := by decide +kernel
theorem dL_law__596 : decode cL_law_ 596 = .ok (.iaload, 1) := by decide +kernel
theorem dL_law__597 : decode cL_law_ 597 = .ok (.invokevirtual 123, 3) := by decide +kernel
theorem dL_law__600 : decode cL_law_ 600 = .ok (.istore 6, 2) := by decide +kernel
theorem dL_law__602 : decode cL_law_ 602 = .ok (.aload_n 2, 1) := by decide +kernel
theorem dL_law__603 : decode cL_law_ 603 = .ok (.invokevirtual 96, 3) := by decide +kernel
theorem dL_law__606 : decode cL_law_ 606 = .ok (.iload 5, 2) := by decide +kernel
theorem dL_law__608 : decode cL_law_ 608 = .ok (.if_icmp .eq 5, 3) := by decide +kernel
theorem dL_law__613 : decode cL_law_ 613 = .ok (.iload 5, 2) := by decide +kernel
theorem dL_law__615 : decode cL_law_ 615 = .ok (.ifCond .ne 15, 3) := by decide +kernel
theorem dL_law__618 : decode cL_law_ 618 = .ok (.aload_n 3, 1) := by decide +kernel
theorem dL_law__619 : decode cL_law_ 619 = .ok (.iconst 0, 1) := by decide +kernel
theorem dL_law__620 : decode cL_law_ 620 = .ok (.laload, 1) := by decide +kernel
theorem dL_law__621 : decode cL_law_ 621 = .ok (.iload 6, 2) := by decide +kernel
theorem dL_law__623 : decode cL_law_ 623 = .ok (.i2l, 1) := by decide +kernel
theorem dL_law__624 : decode cL_law_ 624 = .ok (.lcmp, 1) := by decide +kernel
theorem dL_law__625 : decode cL_law_ 625 = .ok (.ifCond .eq 5, 3) := by decide +kernel
theorem dL_law__630 : decode cL_law_ 630 = .ok (.goto 717, 3) := by decide +kernel
set_option maxHeartbeats 2000000 in
set_option maxRecDepth 20000 in
theorem sg_days {K : Cx} {E : Ev} {nm : String} {Q : State → Prop} {cs ss sa x o ou i L n m : Nat} {xs : Nat → Int32} {F : Nat → Int32} {A : Nat → Nat → Int32} {h : AH} (C : GX K E cL_law_ 7 RL (some .boolean) nm) (hK : kR K = room_1) (hl9 : (kl K).stackTraces = false) (S : SX K E sa L xs) (hL : L ≤ 3072) (hi : i + 6 ≤ L) (hc : cs + 100 ≤ 601024) (hs : ss + 20000 ≤ 7293034) (I : WI E x o ou F A n m F A h) (kn : ∀ F9 A9 n9 m9 h9, WI E x o ou F9 A9 n9 m9 F9 A9 h9 → G K E 7 Q (cs + 8) (ss + 200) 1347 [(0, .ref sa), (1, .ref x), (2, .ref o), (3, .ref ou), (4, .int (nI i))] [] h9) : G K E 7 Q cs ss 577 [(0, .ref sa), (1, .ref x), (2, .ref o), (3, .ref ou), (4, .int (nI i))] [] h := by
  refine g_aload_n (n := 578) C dL_law__577 rfl rfl ?_
  refine g_aload_n (n := 579) C dL_law__578 rfl rfl ?_
  refine g_iload (n := 581) C dL_law__579 rfl rfl ?_
  refine g_iconst (n := 582) (v := 1) C dL_law__581 rfl (by decide) ?_
  refine g_iadd (n := 583) C dL_law__582 rfl ?_
  refine g_sld (n := 584) C S dL_law__583 rfl (s_in 1 hL hi (by decide)) ?_
  refine g_aload_n (n := 585) C dL_law__584 rfl rfl ?_
  obtain ⟨k, v, F9, A9, n9, m9, hk, hM, hr⟩ := oc_days (p := (xs (nI i + 1).toNatClampNeg)) I hl9
  refine g_callSW (n := 588) (As := [.ref x, .int (xs (nI i + 1).toNatClampNeg), .ref ou]) C dL_law__585 rfl mw_L_days w_868 rfl rfl (lroom hK (by omega) (by omega) ⟨by decide, by decide, by decide, by decide, Nat.le_of_ble_eq_true rfl⟩) (lw_days I hM (fun h1 w9 => ?_))
  refine g_istore (n := 590) C dL_law__588 rfl (by decide) ?_
  refine g_aload_n (n := 591) C dL_law__590 rfl rfl ?_
  refine g_aload_n (n := 592) C dL_law__591 rfl rfl ?_
  refine g_iload (n := 594) C dL_law__592 rfl rfl ?_
  refine g_iconst (n := 595) (v := 1) C dL_law__594 rfl (by decide) ?_
  refine g_iadd (n := 596) C dL_law__595 rfl ?_
  refine g_sld (n := 597) C S dL_law__596 rfl (s_in 1 hL hi (by decide)) ?_
  obtain ⟨adm, e9, hI9, hw9⟩ := w9.mh
  rw [e9]
  refine g_callV (n := 600) (As := [.int (xs (nI i + 1).toNatClampNeg)]) C dL_law__597 rfl mw_X11_days w_1304 (g_recv C mh_o rfl) rfl rfl (lroom hK (by omega) (by omega) ⟨by decide, by decide, by decide, by decide, Nat.le_of_ble_eq_true rfl⟩) (hr adm h1 _ hI9 ?_)
  have w8 := hw9 F9 A9
  refine g_istore (n := 602) C dL_law__600 rfl (by decide) ?_
  refine g_aload_n (n := 603) C dL_law__602 rfl rfl ?_
  refine g_callV (n := 606) (As := []) C dL_law__603 rfl mw_X11_thrown w_1194 (g_recv C mh_o rfl) rfl rfl (lroom hK (by omega) (by omega) ⟨by decide, by decide, by decide, by decide, Nat.le_of_ble_eq_true rfl⟩) (ct_thrown ?_)
  rw [hk]
  refine g_iload (n := 608) C dL_law__606 rfl rfl ?_
  refine g_icmp_eq (n := 611) (t := 613) C dL_law__608 rfl (by decide) (fun _ => ?_) (fun zc => absurd rfl zc)
  refine g_iload (n := 615) C dL_law__613 rfl rfl ?_
  refine g_if_ne (n := 618) (t := 630) C dL_law__615 rfl (by decide) (fun zck => ?_) (fun zck => ?_)
  · --k
    refine g_goto (t := 1347) C dL_law__630 (by decide) ?_
    exact g_lv [0, 1, 2, 3, 4] rfl (g_wide (by omega) (by omega) (kn _ _ _ _ _ w8.wi))
  · --k0
    refine g_aload_n (n := 619) C dL_law__618 rfl rfl ?_
    refine g_iconst (n := 620) (v := 0) C dL_law__619 rfl (by decide) ?_
    obtain ⟨O9, ho9, hp9⟩ := w8.row
    refine g_lald (n := 621) C dL_law__620 rfl ho9 (by unfold vp_in; decide) ?_
    rw [show O9 (Int32.toNatClampNeg 0) = _ from hp9 zck]
    refine g_iload (n := 623) C dL_law__621 rfl rfl ?_
    refine g_i2l (n := 624) C dL_law__623 rfl ?_
    refine g_lcmp (n := 625) C dL_law__624 rfl ?_
    rw [lg_same]
    refine g_if_eq (n := 628) (t := 630) C dL_law__625 rfl (by decide) (fun _ => ?_) (fun zc => absurd rfl zc)
    refine g_goto (t := 1347) C dL_law__630 (by decide) ?_
    exact g_lv [0, 1, 2, 3, 4] rfl (g_wide (by omega) (by omega) (kn _ _ _ _ _ w8.wi))
theorem dL_law__633 : decode cL_law_ 633 = .ok (.aload_n 1, 1) := by decide +kernel
theorem dL_law__634 : decode cL_law_ 634 = .ok (.aload_n 0, 1) := by decide +kernel
theorem dL_law__635 : decode cL_law_ 635 = .ok (.iload 4, 2) := by decide +kernel
theorem dL_law__637 : decode cL_law_ 637 = .ok (.iconst 1, 1) := by decide +kernel
theorem dL_law__638 : decode cL_law_ 638 = .ok (.iadd, 1) := by decide +kernel
theorem dL_law__639 : decode cL_law_ 639 = .ok (.iaload, 1) := by decide +kernel
theorem dL_law__640 : decode cL_law_ 640 = .ok (.aload_n 0, 1) := by decide +kernel
theorem dL_law__641 : decode cL_law_ 641 = .ok (.iload 4, 2) := by decide +kernel
theorem dL_law__643 : decode cL_law_ 643 = .ok (.iconst 2, 1) := by decide +kernel
theorem dL_law__644 : decode cL_law_ 644 = .ok (.iadd, 1) := by decide +kernel
theorem dL_law__645 : decode cL_law_ 645 = .ok (.iaload, 1) := by decide +kernel
theorem dL_law__646 : decode cL_law_ 646 = .ok (.ifCond .eq 7, 3) := by decide +kernel
theorem dL_law__649 : decode cL_law_ 649 = .ok (.iconst 1, 1) := by decide +kernel
theorem dL_law__650 : decode cL_law_ 650 = .ok (.goto 4, 3) := by decide +kernel
theorem dL_law__653 : decode cL_law_ 653 = .ok (.iconst 0, 1) := by decide +kernel
theorem dL_law__654 : decode cL_law_ 654 = .ok (.aload_n 3, 1) := by decide +kernel
theorem dL_law__655 : decode cL_law_ 655 = .ok (.invokestatic 124, 3) := by decide +kernel
theorem dL_law__658 : decode cL_law_ 658 = .ok (.istore 5, 2) := by decide +kernel
theorem dL_law__660 : decode cL_law_ 660 = .ok (.aload_n 2, 1) := by decide +kernel
theorem dL_law__661 : decode cL_law_ 661 = .ok (.aload_n 0, 1) := by decide +kernel
theorem dL_law__662 : decode cL_law_ 662 = .ok (.iload 4, 2) := by decide +kernel
theorem dL_law__664 : decode cL_law_ 664 = .ok (.iconst 1, 1) := by decide +kernel
theorem dL_law__665 : decode cL_law_ 665 = .ok (.iadd, 1) := by decide +kernel
theorem dL_law__666 : decode cL_law_ 666 = .ok (.iaload, 1) := by decide +kernel
theorem dL_law__667 : decode cL_law_ 667 = .ok (.aload_n 0, 1) := by decide +kernel
theorem dL_law__668 : decode cL_law_ 668 = .ok (.iload 4, 2) := by decide +kernel
theorem dL_law__670 : decode cL_law_ 670 = .ok (.iconst 2, 1) := by decide +kernel
theorem dL_law__671 : decode cL_law_ 671 = .ok (.iadd, 1) := by decide +kernel
theorem dL_law__672 : decode cL_law_ 672 = .ok (.iaload, 1) := by decide +kernel
theorem dL_law__673 : decode cL_law_ 673 = .ok (.ifCond .eq 7, 3) := by decide +kernel
theorem dL_law__676 : decode cL_law_ 676 = .ok (.iconst 1, 1) := by decide +kernel
theorem dL_law__677 : decode cL_law_ 677 = .ok (.goto 4, 3) := by decide +kernel
theorem dL_law__680 : decode cL_law_ 680 = .ok (.iconst 0, 1) := by decide +kernel
theorem dL_law__681 : decode cL_law_ 681 = .ok (.invokevirtual 127, 3) := by decide +kernel
theorem dL_law__684 : decode cL_law_ 684 = .ok (.istore 6, 2) := by decide +kernel
theorem dL_law__686 : decode cL_law_ 686 = .ok (.aload_n 2, 1) := by decide +kernel
theorem dL_law__687 : decode cL_law_ 687 = .ok (.invokevirtual 96, 3) := by decide +kernel
theorem dL_law__690 : decode cL_law_ 690 = .ok (.iload 5, 2) := by decide +kernel
theorem dL_law__692 : decode cL_law_ 692 = .ok (.if_icmp .eq 5, 3) := by decide +kernel
theorem dL_law__697 : decode cL_law_ 697 = .ok (.iload 5, 2) := by decide +kernel
theorem dL_law__699 : decode cL_law_ 699 = .ok (.ifCond .ne 15, 3) := by decide +kernel
theorem dL_law__702 : decode cL_law_ 702 = .ok (.aload_n 3, 1) := by decide +kernel
theorem dL_law__703 : decode cL_law_ 703 = .ok (.iconst 0, 1) := by decide +kernel
theorem dL_law__704 : decode cL_law_ 704 = .ok (.laload, 1) := by decide +kernel
theorem dL_law__705 : decode cL_law_ 705 = .ok (.iload 6, 2) := by decide +kernel
theorem dL_law__707 : decode cL_law_ 707 = .ok (.i2l, 1) := by decide +kernel
theorem dL_law__708 : decode cL_law_ 708 = .ok (.lcmp, 1) := by decide +kernel
theorem dL_law__709 : decode cL_law_ 709 = .ok (.ifCond .eq 5, 3) := by decide +kernel
theorem dL_law__714 : decode cL_law_ 714 = .ok (.goto 633, 3) := by decide +kernel
set_option maxHeartbeats 2000000 in
set_option maxRecDepth 20000 in
theorem sg_span {K : Cx} {E : Ev} {nm : String} {Q : State → Prop} {cs ss sa x o ou i L n m : Nat} {xs : Nat → Int32} {F : Nat → Int32} {A : Nat → Nat → Int32} {h : AH} (C : GX K E cL_law_ 7 RL (some .boolean) nm) (hK : kR K = room_1) (hl9 : (kl K).stackTraces = false) (S : SX K E sa L xs) (hL : L ≤ 3072) (hi : i + 6 ≤ L) (hc : cs + 100 ≤ 601024) (hs : ss + 20000 ≤ 7293034) (I : WI E x o ou F A n m F A h) (kn : ∀ F9 A9 n9 m9 h9, WI E x o ou F9 A9 n9 m9 F9 A9 h9 → G K E 7 Q (cs + 8) (ss + 200) 1347 [(0, .ref sa), (1, .ref x), (2, .ref o), (3, .ref ou), (4, .int (nI i))] [] h9) : G K E 7 Q cs ss 633 [(0, .ref sa), (1, .ref x), (2, .ref o), (3, .ref ou), (4, .int (nI i))] [] h := by
  refine g_aload_n (n := 634) C dL_law__633 rfl rfl ?_
  refine g_aload_n (n := 635) C dL_law__634 rfl rfl ?_
  refine g_iload (n := 637) C dL_law__635 rfl rfl ?_
  refine g_iconst (n := 638) (v := 1) C dL_law__637 rfl (by decide) ?_
  refine g_iadd (n := 639) C dL_law__638 rfl ?_
  refine g_sld (n := 640) C S dL_law__639 rfl (s_in 1 hL hi (by decide)) ?_
  refine g_aload_n (n := 641) C dL_law__640 rfl rfl ?_
  refine g_iload (n := 643) C dL_law__641 rfl rfl ?_
  refine g_iconst (n := 644) (v := 2) C dL_law__643 rfl (by decide) ?_
  refine g_iadd (n := 645) C dL_law__644 rfl ?_
  refine g_sld (n := 646) C S dL_law__645 rfl (s_in 2 hL hi (by decide)) ?_
  refine g_if_eq (n := 649) (t := 653) C dL_law__646 rfl (by decide) (fun zcs => ?_) (fun zcs => ?_)
  · --s0
    refine g_iconst (n := 654) (v := 0) C dL_law__653 rfl (by decide) ?_
    refine g_aload_n (n := 655) C dL_law__654 rfl rfl ?_
    obtain ⟨k, v, F9, A9, n9, m9, hk, hM, hr⟩ := oc_span (s := (xs (nI i + 1).toNatClampNeg)) (m8 := 0) I hl9
    refine g_callSW (n := 658) (As := [.ref x, .int (xs (nI i + 1).toNatClampNeg), .int 0, .ref ou]) C dL_law__655 rfl mw_L_span w_880 rfl rfl (lroom hK (by omega) (by omega) ⟨by decide, by decide, by decide, by decide, Nat.le_of_ble_eq_true rfl⟩) (lw_span I hM (fun h1 w9 => ?_))
    refine g_istore (n := 660) C dL_law__658 rfl (by decide) ?_
    refine g_aload_n (n := 661) C dL_law__660 rfl rfl ?_
    refine g_aload_n (n := 662) C dL_law__661 rfl rfl ?_
    refine g_iload (n := 664) C dL_law__662 rfl rfl ?_
    refine g_iconst (n := 665) (v := 1) C dL_law__664 rfl (by decide) ?_
    refine g_iadd (n := 666) C dL_law__665 rfl ?_
    refine g_sld (n := 667) C S dL_law__666 rfl (s_in 1 hL hi (by decide)) ?_
    refine g_aload_n (n := 668) C dL_law__667 rfl rfl ?_
    refine g_iload (n := 670) C dL_law__668 rfl rfl ?_
    refine g_iconst (n := 671) (v := 2) C dL_law__670 rfl (by decide) ?_
    refine g_iadd (n := 672) C dL_law__671 rfl ?_
    refine g_sld (n := 673) C S dL_law__672 rfl (s_in 2 hL hi (by decide)) ?_
    refine g_if_eq (n := 676) (t := 680) C dL_law__673 rfl (by decide) (fun _ => ?_) (fun zc => absurd zcs zc)
    refine g_iconst (n := 681) (v := 0) C dL_law__680 rfl (by decide) ?_
    obtain ⟨adm, e9, hI9, hw9⟩ := w9.mh
    rw [e9]
    refine g_callV (n := 684) (As := [.int (xs (nI i + 1).toNatClampNeg), .int 0]) C dL_law__681 rfl mw_X11_span w_1309 (g_recv C mh_o rfl) rfl rfl (lroom hK (by omega) (by omega) ⟨by decide, by decide, by decide, by decide, Nat.le_of_ble_eq_true rfl⟩) (hr adm h1 _ hI9 ?_)
    have w8 := hw9 F9 A9
    refine g_istore (n := 686) C dL_law__684 rfl (by decide) ?_
    refine g_aload_n (n := 687) C dL_law__686 rfl rfl ?_
    refine g_callV (n := 690) (As := []) C dL_law__687 rfl mw_X11_thrown w_1194 (g_recv C mh_o rfl) rfl rfl (lroom hK (by omega) (by omega) ⟨by decide, by decide, by decide, by decide, Nat.le_of_ble_eq_true rfl⟩) (ct_thrown ?_)
    rw [hk]
    refine g_iload (n := 692) C dL_law__690 rfl rfl ?_
    refine g_icmp_eq (n := 695) (t := 697) C dL_law__692 rfl (by decide) (fun _ => ?_) (fun zc => absurd rfl zc)
    refine g_iload (n := 699) C dL_law__697 rfl rfl ?_
    refine g_if_ne (n := 702) (t := 714) C dL_law__699 rfl (by decide) (fun zck => ?_) (fun zck => ?_)
    · --k
      refine g_goto (t := 1347) C dL_law__714 (by decide) ?_
      exact g_lv [0, 1, 2, 3, 4] rfl (g_wide (by omega) (by omega) (kn _ _ _ _ _ w8.wi))
    · --k0
      refine g_aload_n (n := 703) C dL_law__702 rfl rfl ?_
      refine g_iconst (n := 704) (v := 0) C dL_law__703 rfl (by decide) ?_
      obtain ⟨O9, ho9, hp9⟩ := w8.row
      refine g_lald (n := 705) C dL_law__704 rfl ho9 (by unfold vp_in; decide) ?_
      rw [show O9 (Int32.toNatClampNeg 0) = _ from hp9 zck]
      refine g_iload (n := 707) C dL_law__705 rfl rfl ?_
      refine g_i2l (n := 708) C dL_law__707 rfl ?_
      refine g_lcmp (n := 709) C dL_law__708 rfl ?_
      rw [lg_same]
      refine g_if_eq (n := 712) (t := 714) C dL_law__709 rfl (by decide) (fun _ => ?_) (fun zc => absurd rfl zc)
      refine g_goto (t := 1347) C dL_law__714 (by decide) ?_
      exact g_lv [0, 1, 2, 3, 4] rfl (g_wide (by omega) (by omega) (kn _ _ _ _ _ w8.wi))
  · --s1
    refine g_iconst (n := 650) (v := 1) C dL_law__649 rfl (by decide) ?_
    refine g_goto (t := 654) C dL_law__650 (by decide) ?_
    refine g_aload_n (n := 655) C dL_law__654 rfl rfl ?_
    obtain ⟨k, v, F9, A9, n9, m9, hk, hM, hr⟩ := oc_span (s := (xs (nI i + 1).toNatClampNeg)) (m8 := 1) I hl9
    refine g_callSW (n := 658) (As := [.ref x, .int (xs (nI i + 1).toNatClampNeg), .int 1, .ref ou]) C dL_law__655 rfl mw_L_span w_880 rfl rfl (lroom hK (by omega) (by omega) ⟨by decide, by decide, by decide, by decide, Nat.le_of_ble_eq_true rfl⟩) (lw_span I hM (fun h1 w9 => ?_))
    refine g_istore (n := 660) C dL_law__658 rfl (by decide) ?_
    refine g_aload_n (n := 661) C dL_law__660 rfl rfl ?_
    refine g_aload_n (n := 662) C dL_law__661 rfl rfl ?_
    refine g_iload (n := 664) C dL_law__662 rfl rfl ?_
    refine g_iconst (n := 665) (v := 1) C dL_law__664 rfl (by decide) ?_
    refine g_iadd (n := 666) C dL_law__665 rfl ?_
    refine g_sld (n := 667) C S dL_law__666 rfl (s_in 1 hL hi (by decide)) ?_
    refine g_aload_n (n := 668) C dL_law__667 rfl rfl ?_
    refine g_iload (n := 670) C dL_law__668 rfl rfl ?_
    refine g_iconst (n := 671) (v := 2) C dL_law__670 rfl (by decide) ?_
    refine g_iadd (n := 672) C dL_law__671 rfl ?_
    refine g_sld (n := 673) C S dL_law__672 rfl (s_in 2 hL hi (by decide)) ?_
    refine g_if_eq (n := 676) (t := 680) C dL_law__673 rfl (by decide) (fun zc => absurd zc zcs) (fun _ => ?_)
    refine g_iconst (n := 677) (v := 1) C dL_law__676 rfl (by decide) ?_
    refine g_goto (t := 681) C dL_law__677 (by decide) ?_
    obtain ⟨adm, e9, hI9, hw9⟩ := w9.mh
    rw [e9]
    refine g_callV (n := 684) (As := [.int (xs (nI i + 1).toNatClampNeg), .int 1]) C dL_law__681 rfl mw_X11_span w_1309 (g_recv C mh_o rfl) rfl rfl (lroom hK (by omega) (by omega) ⟨by decide, by decide, by decide, by decide, Nat.le_of_ble_eq_true rfl⟩) (hr adm h1 _ hI9 ?_)
    have w8 := hw9 F9 A9
    refine g_istore (n := 686) C dL_law__684 rfl (by decide) ?_
    refine g_aload_n (n := 687) C dL_law__686 rfl rfl ?_
    refine g_callV (n := 690) (As := []) C dL_law__687 rfl mw_X11_thrown w_1194 (g_recv C mh_o rfl) rfl rfl (lroom hK (by omega) (by omega) ⟨by decide, by decide, by decide, by decide, Nat.le_of_ble_eq_true rfl⟩) (ct_thrown ?_)
    rw [hk]
    refine g_iload (n := 692) C dL_law__690 rfl rfl ?_
    refine g_icmp_eq (n := 695) (t := 697) C dL_law__692 rfl (by decide) (fun _ => ?_) (fun zc => absurd rfl zc)
    refine g_iload (n := 699) C dL_law__697 rfl rfl ?_
    refine g_if_ne (n := 702) (t := 714) C dL_law__699 rfl (by decide) (fun zck => ?_) (fun zck => ?_)
    · --k
      refine g_goto (t := 1347) C dL_law__714 (by decide) ?_
      exact g_lv [0, 1, 2, 3, 4] rfl (g_wide (by omega) (by omega) (kn _ _ _ _ _ w8.wi))
    · --k0
      refine g_aload_n (n := 703) C dL_law__702 rfl rfl ?_
      refine g_iconst (n := 704) (v := 0) C dL_law__703 rfl (by decide) ?_
      obtain ⟨O9, ho9, hp9⟩ := w8.row
      refine g_lald (n := 705) C dL_law__704 rfl ho9 (by unfold vp_in; decide) ?_
      rw [show O9 (Int32.toNatClampNeg 0) = _ from hp9 zck]
      refine g_iload (n := 707) C dL_law__705 rfl rfl ?_
      refine g_i2l (n := 708) C dL_law__707 rfl ?_
      refine g_lcmp (n := 709) C dL_law__708 rfl ?_
      rw [lg_same]
      refine g_if_eq (n := 712) (t := 714) C dL_law__709 rfl (by decide) (fun _ => ?_) (fun zc => absurd rfl zc)
      refine g_goto (t := 1347) C dL_law__714 (by decide) ?_
      exact g_lv [0, 1, 2, 3, 4] rfl (g_wide (by omega) (by omega) (kn _ _ _ _ _ w8.wi))
theorem dL_law__717 : decode cL_law_ 717 = .ok (.aload_n 1, 1) := by decide +kernel
theorem dL_law__718 : decode cL_law_ 718 = .ok (.invokevirtual 128, 3) := by decide +kernel
theorem dL_law__721 : decode cL_law_ 721 = .ok (.aload_n 2, 1) := by decide +kernel
theorem dL_law__722 : decode cL_law_ 722 = .ok (.invokevirtual 131, 3) := by decide +kernel
theorem dL_law__725 : decode cL_law_ 725 = .ok (.if_icmp .eq 622, 3) := by decide +kernel
set_option maxHeartbeats 2000000 in
set_option maxRecDepth 20000 in
theorem sg_best {K : Cx} {E : Ev} {nm : String} {Q : State → Prop} {cs ss sa x o ou i L n m : Nat} {xs : Nat → Int32} {F : Nat → Int32} {A : Nat → Nat → Int32} {h : AH} (C : GX K E cL_law_ 7 RL (some .boolean) nm) (hK : kR K = room_1) (hl9 : (kl K).stackTraces = false) (S : SX K E sa L xs) (hL : L ≤ 3072) (hi : i + 6 ≤ L) (hc : cs + 100 ≤ 601024) (hs : ss + 20000 ≤ 7293034) (I : WI E x o ou F A n m F A h) (kn : ∀ F9 A9 n9 m9 h9, WI E x o ou F9 A9 n9 m9 F9 A9 h9 → G K E 7 Q (cs + 8) (ss + 200) 1347 [(0, .ref sa), (1, .ref x), (2, .ref o), (3, .ref ou), (4, .int (nI i))] [] h9) : G K E 7 Q cs ss 717 [(0, .ref sa), (1, .ref x), (2, .ref o), (3, .ref ou), (4, .int (nI i))] [] h := by
  refine g_aload_n (n := 718) C dL_law__717 rfl rfl ?_
  obtain ⟨v, F9, A9, KP, hkp, hM, hr⟩ := oc_best  I
  obtain ⟨vs9, hx9⟩ := I.obj
  refine g_callV (n := 721) (As := []) C dL_law__718 rfl mw_X10_best w_278 (g_recv C hx9 rfl) rfl rfl (lroom hK (by omega) (by omega) ⟨by decide, by decide, by decide, by decide, Nat.le_of_ble_eq_true rfl⟩) (hM.mono (fun v1 h1 q9 => ?_))
  obtain ⟨rfl, w9⟩ := q9
  have w9 := w9.wo
  refine g_aload_n (n := 722) C dL_law__721 rfl rfl ?_
  obtain ⟨adm, e9, hI9, hw9⟩ := w9.mh
  rw [e9]
  refine g_callV (n := 725) (As := []) C dL_law__722 rfl mw_X11_best w_1321 (g_recv C mh_o rfl) rfl rfl (lroom hK (by omega) (by omega) ⟨by decide, by decide, by decide, by decide, Nat.le_of_ble_eq_true rfl⟩) (hr adm h1 _ hI9 (fun B hB => ?_))
  have w8 := (hw9 F9 B).wi.keep (hkp B hB)
  refine g_icmp_eq (n := 728) (t := 1347) C dL_law__725 rfl (by decide) (fun _ => ?_) (fun zc => absurd rfl zc)
  exact g_lv [0, 1, 2, 3, 4] rfl (g_wide (by omega) (by omega) (kn _ _ _ _ _ w8))
theorem dL_law__730 : decode cL_law_ 730 = .ok (.aload_n 1, 1) := by decide +kernel
theorem dL_law__731 : decode cL_law_ 731 = .ok (.aload_n 0, 1) := by decide +kernel
theorem dL_law__732 : decode cL_law_ 732 = .ok (.iload 4, 2) := by decide +kernel
theorem dL_law__734 : decode cL_law_ 734 = .ok (.iconst 1, 1) := by decide +kernel
theorem dL_law__735 : decode cL_law_ 735 = .ok (.iadd, 1) := by decide +kernel
theorem dL_law__736 : decode cL_law_ 736 = .ok (.iaload, 1) := by decide +kernel
theorem dL_law__737 : decode cL_law_ 737 = .ok (.aload_n 0, 1) := by decide +kernel
theorem dL_law__738 : decode cL_law_ 738 = .ok (.iload 4, 2) := by decide +kernel
theorem dL_law__740 : decode cL_law_ 740 = .ok (.iconst 2, 1) := by decide +kernel
theorem dL_law__741 : decode cL_law_ 741 = .ok (.iadd, 1) := by decide +kernel
theorem dL_law__742 : decode cL_law_ 742 = .ok (.iaload, 1) := by decide +kernel
theorem dL_law__743 : decode cL_law_ 743 = .ok (.aload_n 3, 1) := by decide +kernel
theorem dL_law__744 : decode cL_law_ 744 = .ok (.invokestatic 132, 3) := by decide +kernel
theorem dL_law__747 : decode cL_law_ 747 = .ok (.istore 5, 2) := by decide +kernel
theorem dL_law__749 : decode cL_law_ 749 = .ok (.aload_n 2, 1) := by decide +kernel
theorem dL_law__750 : decode cL_law_ 750 = .ok (.aload_n 0, 1) := by decide +kernel
theorem dL_law__751 : decode cL_law_ 751 = .ok (.iload 4, 2) := by decide +kernel
theorem dL_law__753 : decode cL_law_ 753 = .ok (.iconst 1, 1) := by decide +kernel
theorem dL_law__754 : decode cL_law_ 754 = .ok (.iadd, 1) := by decide +kernel
theorem dL_law__755 : decode cL_law_ 755 = .ok (.iaload, 1) := by decide +kernel
theorem dL_law__756 : decode cL_law_ 756 = .ok (.aload_n 0, 1) := by decide +kernel
theorem dL_law__757 : decode cL_law_ 757 = .ok (.iload 4, 2) := by decide +kernel
theorem dL_law__759 : decode cL_law_ 759 = .ok (.iconst 2, 1) := by decide +kernel
theorem dL_law__760 : decode cL_law_ 760 = .ok (.iadd, 1) := by decide +kernel
theorem dL_law__761 : decode cL_law_ 761 = .ok (.iaload, 1) := by decide +kernel
theorem dL_law__762 : decode cL_law_ 762 = .ok (.invokevirtual 134, 3) := by decide +kernel
theorem dL_law__765 : decode cL_law_ 765 = .ok (.istore 6, 2) := by decide +kernel
theorem dL_law__767 : decode cL_law_ 767 = .ok (.aload_n 2, 1) := by decide +kernel
theorem dL_law__768 : decode cL_law_ 768 = .ok (.invokevirtual 96, 3) := by decide +kernel
theorem dL_law__771 : decode cL_law_ 771 = .ok (.iload 5, 2) := by decide +kernel
theorem dL_law__773 : decode cL_law_ 773 = .ok (.if_icmp .eq 5, 3) := by decide +kernel
theorem dL_law__778 : decode cL_law_ 778 = .ok (.iload 5, 2) := by decide +kernel
theorem dL_law__780 : decode cL_law_ 780 = .ok (.ifCond .ne 15, 3) := by decide +kernel
theorem dL_law__783 : decode cL_law_ 783 = .ok (.aload_n 3, 1) := by decide +kernel
theorem dL_law__784 : decode cL_law_ 784 = .ok (.iconst 0, 1) := by decide +kernel
theorem dL_law__785 : decode cL_law_ 785 = .ok (.laload, 1) := by decide +kernel
theorem dL_law__786 : decode cL_law_ 786 = .ok (.iload 6, 2) := by decide +kernel
theorem dL_law__788 : decode cL_law_ 788 = .ok (.i2l, 1) := by decide +kernel
theorem dL_law__789 : decode cL_law_ 789 = .ok (.lcmp, 1) := by decide +kernel
theorem dL_law__790 : decode cL_law_ 790 = .ok (.ifCond .eq 5, 3) := by decide +kernel
theorem dL_law__795 : decode cL_law_ 795 = .ok (.goto 552, 3) := by decide +kernel
set_option maxHeartbeats 2000000 in
set_option maxRecDepth 20000 in
theorem sg_look {K : Cx} {E : Ev} {nm : String} {Q : State → Prop} {cs ss sa x o ou i L n m : Nat} {xs : Nat → Int32} {F : Nat → Int32} {A : Nat → Nat → Int32} {h : AH} (C : GX K E cL_law_ 7 RL (some .boolean) nm) (hK : kR K = room_1) (hl9 : (kl K).stackTraces = false) (S : SX K E sa L xs) (hL : L ≤ 3072) (hi : i + 6 ≤ L) (hc : cs + 100 ≤ 601024) (hs : ss + 20000 ≤ 7293034) (I : WI E x o ou F A n m F A h) (kn : ∀ F9 A9 n9 m9 h9, WI E x o ou F9 A9 n9 m9 F9 A9 h9 → G K E 7 Q (cs + 8) (ss + 200) 1347 [(0, .ref sa), (1, .ref x), (2, .ref o), (3, .ref ou), (4, .int (nI i))] [] h9) : G K E 7 Q cs ss 730 [(0, .ref sa), (1, .ref x), (2, .ref o), (3, .ref ou), (4, .int (nI i))] [] h := by
  refine g_aload_n (n := 731) C dL_law__730 rfl rfl ?_
  refine g_aload_n (n := 732) C dL_law__731 rfl rfl ?_
  refine g_iload (n := 734) C dL_law__732 rfl rfl ?_
  refine g_iconst (n := 735) (v := 1) C dL_law__734 rfl (by decide) ?_
  refine g_iadd (n := 736) C dL_law__735 rfl ?_
  refine g_sld (n := 737) C S dL_law__736 rfl (s_in 1 hL hi (by decide)) ?_
  refine g_aload_n (n := 738) C dL_law__737 rfl rfl ?_
  refine g_iload (n := 740) C dL_law__738 rfl rfl ?_
  refine g_iconst (n := 741) (v := 2) C dL_law__740 rfl (by decide) ?_
  refine g_iadd (n := 742) C dL_law__741 rfl ?_
  refine g_sld (n := 743) C S dL_law__742 rfl (s_in 2 hL hi (by decide)) ?_
  refine g_aload_n (n := 744) C dL_law__743 rfl rfl ?_
  obtain ⟨k, v, F9, A9, n9, m9, hk, hM, hr⟩ := oc_look (p := (xs (nI i + 1).toNatClampNeg)) (w := (xs (nI i + 2).toNatClampNeg)) I hl9
  refine g_callSW (n := 747) (As := [.ref x, .int (xs (nI i + 1).toNatClampNeg), .int (xs (nI i + 2).toNatClampNeg), .ref ou]) C dL_law__744 rfl mw_L_look w_896 rfl rfl (lroom hK (by omega) (by omega) ⟨by decide, by decide, by decide, by decide, Nat.le_of_ble_eq_true rfl⟩) (lw_look I hM (fun h1 w9 => ?_))
  refine g_istore (n := 749) C dL_law__747 rfl (by decide) ?_
  refine g_aload_n (n := 750) C dL_law__749 rfl rfl ?_
  refine g_aload_n (n := 751) C dL_law__750 rfl rfl ?_
  refine g_iload (n := 753) C dL_law__751 rfl rfl ?_
  refine g_iconst (n := 754) (v := 1) C dL_law__753 rfl (by decide) ?_
  refine g_iadd (n := 755) C dL_law__754 rfl ?_
  refine g_sld (n := 756) C S dL_law__755 rfl (s_in 1 hL hi (by decide)) ?_
  refine g_aload_n (n := 757) C dL_law__756 rfl rfl ?_
  refine g_iload (n := 759) C dL_law__757 rfl rfl ?_
  refine g_iconst (n := 760) (v := 2) C dL_law__759 rfl (by decide) ?_
  refine g_iadd (n := 761) C dL_law__760 rfl ?_
  refine g_sld (n := 762) C S dL_law__761 rfl (s_in 2 hL hi (by decide)) ?_
  obtain ⟨adm, e9, hI9, hw9⟩ := w9.mh
  rw [e9]
  refine g_callV (n := 765) (As := [.int (xs (nI i + 1).toNatClampNeg), .int (xs (nI i + 2).toNatClampNeg)]) C dL_law__762 rfl mw_X11_look w_1325 (g_recv C mh_o rfl) rfl rfl (lroom hK (by omega) (by omega) ⟨by decide, by decide, by decide, by decide, Nat.le_of_ble_eq_true rfl⟩) (hr adm h1 _ hI9 ?_)
  have w8 := hw9 F9 A9
  refine g_istore (n := 767) C dL_law__765 rfl (by decide) ?_
  refine g_aload_n (n := 768) C dL_law__767 rfl rfl ?_
  refine g_callV (n := 771) (As := []) C dL_law__768 rfl mw_X11_thrown w_1194 (g_recv C mh_o rfl) rfl rfl (lroom hK (by omega) (by omega) ⟨by decide, by decide, by decide, by decide, Nat.le_of_ble_eq_true rfl⟩) (ct_thrown ?_)
  rw [hk]
  refine g_iload (n := 773) C dL_law__771 rfl rfl ?_
  refine g_icmp_eq (n := 776) (t := 778) C dL_law__773 rfl (by decide) (fun _ => ?_) (fun zc => absurd rfl zc)
  refine g_iload (n := 780) C dL_law__778 rfl rfl ?_
  refine g_if_ne (n := 783) (t := 795) C dL_law__780 rfl (by decide) (fun zck => ?_) (fun zck => ?_)
  · --k
    refine g_goto (t := 1347) C dL_law__795 (by decide) ?_
    exact g_lv [0, 1, 2, 3, 4] rfl (g_wide (by omega) (by omega) (kn _ _ _ _ _ w8.wi))
  · --k0
    refine g_aload_n (n := 784) C dL_law__783 rfl rfl ?_
    refine g_iconst (n := 785) (v := 0) C dL_law__784 rfl (by decide) ?_
    obtain ⟨O9, ho9, hp9⟩ := w8.row
    refine g_lald (n := 786) C dL_law__785 rfl ho9 (by unfold vp_in; decide) ?_
    rw [show O9 (Int32.toNatClampNeg 0) = _ from hp9 zck]
    refine g_iload (n := 788) C dL_law__786 rfl rfl ?_
    refine g_i2l (n := 789) C dL_law__788 rfl ?_
    refine g_lcmp (n := 790) C dL_law__789 rfl ?_
    rw [lg_same]
    refine g_if_eq (n := 793) (t := 795) C dL_law__790 rfl (by decide) (fun _ => ?_) (fun zc => absurd rfl zc)
    refine g_goto (t := 1347) C dL_law__795 (by decide) ?_
    exact g_lv [0, 1, 2, 3, 4] rfl (g_wide (by omega) (by omega) (kn _ _ _ _ _ w8.wi))
theorem dL_law__798 : decode cL_law_ 798 = .ok (.aload_n 1, 1) := by decide +kernel
theorem dL_law__799 : decode cL_law_ 799 = .ok (.aload_n 0, 1) := by decide +kernel
theorem dL_law__800 : decode cL_law_ 800 = .ok (.iload 4, 2) := by decide +kernel
theorem dL_law__802 : decode cL_law_ 802 = .ok (.iconst 1, 1) := by decide +kernel
theorem dL_law__803 : decode cL_law_ 803 = .ok (.iadd, 1) := by decide +kernel
theorem dL_law__804 : decode cL_law_ 804 = .ok (.iaload, 1) := by decide +kernel
theorem dL_law__805 : decode cL_law_ 805 = .ok (.aload_n 0, 1) := by decide +kernel
theorem dL_law__806 : decode cL_law_ 806 = .ok (.iload 4, 2) := by decide +kernel
theorem dL_law__808 : decode cL_law_ 808 = .ok (.iconst 2, 1) := by decide +kernel
theorem dL_law__809 : decode cL_law_ 809 = .ok (.iadd, 1) := by decide +kernel
theorem dL_law__810 : decode cL_law_ 810 = .ok (.iaload, 1) := by decide +kernel
theorem dL_law__811 : decode cL_law_ 811 = .ok (.aload_n 3, 1) := by decide +kernel
theorem dL_law__812 : decode cL_law_ 812 = .ok (.invokestatic 135, 3) := by decide +kernel
theorem dL_law__815 : decode cL_law_ 815 = .ok (.istore 5, 2) := by decide +kernel
theorem dL_law__817 : decode cL_law_ 817 = .ok (.aload_n 2, 1) := by decide +kernel
theorem dL_law__818 : decode cL_law_ 818 = .ok (.aload_n 0, 1) := by decide +kernel
theorem dL_law__819 : decode cL_law_ 819 = .ok (.iload 4, 2) := by decide +kernel
theorem dL_law__821 : decode cL_law_ 821 = .ok (.iconst 1, 1) := by decide +kernel
theorem dL_law__822 : decode cL_law_ 822 = .ok (.iadd, 1) := by decide +kernel
theorem dL_law__823 : decode cL_law_ 823 = .ok (.iaload, 1) := by decide +kernel
theorem dL_law__824 : decode cL_law_ 824 = .ok (.aload_n 0, 1) := by decide +kernel
theorem dL_law__825 : decode cL_law_ 825 = .ok (.iload 4, 2) := by decide +kernel
theorem dL_law__827 : decode cL_law_ 827 = .ok (.iconst 2, 1) := by decide +kernel
theorem dL_law__828 : decode cL_law_ 828 = .ok (.iadd, 1) := by decide +kernel
theorem dL_law__829 : decode cL_law_ 829 = .ok (.iaload, 1) := by decide +kernel
theorem dL_law__830 : decode cL_law_ 830 = .ok (.invokevirtual 137, 3) := by decide +kernel
theorem dL_law__833 : decode cL_law_ 833 = .ok (.istore 6, 2) := by decide +kernel
theorem dL_law__835 : decode cL_law_ 835 = .ok (.aload_n 2, 1) := by decide +kernel
theorem dL_law__836 : decode cL_law_ 836 = .ok (.invokevirtual 96, 3) := by decide +kernel
theorem dL_law__839 : decode cL_law_ 839 = .ok (.iload 5, 2) := by decide +kernel
theorem dL_law__841 : decode cL_law_ 841 = .ok (.if_icmp .eq 5, 3) := by decide +kernel
theorem dL_law__846 : decode cL_law_ 846 = .ok (.iload 5, 2) := by decide +kernel
theorem dL_law__848 : decode cL_law_ 848 = .ok (.ifCond .ne 15, 3) := by decide +kernel
theorem dL_law__851 : decode cL_law_ 851 = .ok (.aload_n 3, 1) := by decide +kernel
theorem dL_law__852 : decode cL_law_ 852 = .ok (.iconst 0, 1) := by decide +kernel
theorem dL_law__853 : decode cL_law_ 853 = .ok (.laload, 1) := by decide +kernel
theorem dL_law__854 : decode cL_law_ 854 = .ok (.iload 6, 2) := by decide +kernel
theorem dL_law__856 : decode cL_law_ 856 = .ok (.i2l, 1) := by decide +kernel
theorem dL_law__857 : decode cL_law_ 857 = .ok (.lcmp, 1) := by decide +kernel
theorem dL_law__858 : decode cL_law_ 858 = .ok (.ifCond .eq 5, 3) := by decide +kernel
theorem dL_law__863 : decode cL_law_ 863 = .ok (.goto 484, 3) := by decide +kernel
set_option maxHeartbeats 2000000 in
set_option maxRecDepth 20000 in
theorem sg_stone {K : Cx} {E : Ev} {nm : String} {Q : State → Prop} {cs ss sa x o ou i L n m : Nat} {xs : Nat → Int32} {F : Nat → Int32} {A : Nat → Nat → Int32} {h : AH} (C : GX K E cL_law_ 7 RL (some .boolean) nm) (hK : kR K = room_1) (hl9 : (kl K).stackTraces = false) (S : SX K E sa L xs) (hL : L ≤ 3072) (hi : i + 6 ≤ L) (hc : cs + 100 ≤ 601024) (hs : ss + 20000 ≤ 7293034) (I : WI E x o ou F A n m F A h) (kn : ∀ F9 A9 n9 m9 h9, WI E x o ou F9 A9 n9 m9 F9 A9 h9 → G K E 7 Q (cs + 8) (ss + 200) 1347 [(0, .ref sa), (1, .ref x), (2, .ref o), (3, .ref ou), (4, .int (nI i))] [] h9) : G K E 7 Q cs ss 798 [(0, .ref sa), (1, .ref x), (2, .ref o), (3, .ref ou), (4, .int (nI i))] [] h := by
  refine g_aload_n (n := 799) C dL_law__798 rfl rfl ?_
  refine g_aload_n (n := 800) C dL_law__799 rfl rfl ?_
  refine g_iload (n := 802) C dL_law__800 rfl rfl ?_
  refine g_iconst (n := 803) (v := 1) C dL_law__802 rfl (by decide) ?_
  refine g_iadd (n := 804) C dL_law__803 rfl ?_
  refine g_sld (n := 805) C S dL_law__804 rfl (s_in 1 hL hi (by decide)) ?_
  refine g_aload_n (n := 806) C dL_law__805 rfl rfl ?_
  refine g_iload (n := 808) C dL_law__806 rfl rfl ?_
  refine g_iconst (n := 809) (v := 2) C dL_law__808 rfl (by decide) ?_
  refine g_iadd (n := 810) C dL_law__809 rfl ?_
  refine g_sld (n := 811) C S dL_law__810 rfl (s_in 2 hL hi (by decide)) ?_
  refine g_aload_n (n := 812) C dL_law__811 rfl rfl ?_
  obtain ⟨k, v, F9, A9, n9, m9, hk, hM, hr⟩ := oc_stone (p := (xs (nI i + 1).toNatClampNeg)) (b := (xs (nI i + 2).toNatClampNeg)) I hl9
  refine g_callSW (n := 815) (As := [.ref x, .int (xs (nI i + 1).toNatClampNeg), .int (xs (nI i + 2).toNatClampNeg), .ref ou]) C dL_law__812 rfl mw_L_stone w_921 rfl rfl (lroom hK (by omega) (by omega) ⟨by decide, by decide, by decide, by decide, Nat.le_of_ble_eq_true rfl⟩) (lw_stone I hM (fun h1 w9 => ?_))
  refine g_istore (n := 817) C dL_law__815 rfl (by decide) ?_
  refine g_aload_n (n := 818) C dL_law__817 rfl rfl ?_
  refine g_aload_n (n := 819) C dL_law__818 rfl rfl ?_
  refine g_iload (n := 821) C dL_law__819 rfl rfl ?_
  refine g_iconst (n := 822) (v := 1) C dL_law__821 rfl (by decide) ?_
  refine g_iadd (n := 823) C dL_law__822 rfl ?_
  refine g_sld (n := 824) C S dL_law__823 rfl (s_in 1 hL hi (by decide)) ?_
  refine g_aload_n (n := 825) C dL_law__824 rfl rfl ?_
  refine g_iload (n := 827) C dL_law__825 rfl rfl ?_
  refine g_iconst (n := 828) (v := 2) C dL_law__827 rfl (by decide) ?_
  refine g_iadd (n := 829) C dL_law__828 rfl ?_
  refine g_sld (n := 830) C S dL_law__829 rfl (s_in 2 hL hi (by decide)) ?_
  obtain ⟨adm, e9, hI9, hw9⟩ := w9.mh
  rw [e9]
  refine g_callV (n := 833) (As := [.int (xs (nI i + 1).toNatClampNeg), .int (xs (nI i + 2).toNatClampNeg)]) C dL_law__830 rfl mw_X11_stone w_1333 (g_recv C mh_o rfl) rfl rfl (lroom hK (by omega) (by omega) ⟨by decide, by decide, by decide, by decide, Nat.le_of_ble_eq_true rfl⟩) (hr adm h1 _ hI9 ?_)
  have w8 := hw9 F9 A9
  refine g_istore (n := 835) C dL_law__833 rfl (by decide) ?_
  refine g_aload_n (n := 836) C dL_law__835 rfl rfl ?_
  refine g_callV (n := 839) (As := []) C dL_law__836 rfl mw_X11_thrown w_1194 (g_recv C mh_o rfl) rfl rfl (lroom hK (by omega) (by omega) ⟨by decide, by decide, by decide, by decide, Nat.le_of_ble_eq_true rfl⟩) (ct_thrown ?_)
  rw [hk]
  refine g_iload (n := 841) C dL_law__839 rfl rfl ?_
  refine g_icmp_eq (n := 844) (t := 846) C dL_law__841 rfl (by decide) (fun _ => ?_) (fun zc => absurd rfl zc)
  refine g_iload (n := 848) C dL_law__846 rfl rfl ?_
  refine g_if_ne (n := 851) (t := 863) C dL_law__848 rfl (by decide) (fun zck => ?_) (fun zck => ?_)
  · --k
    refine g_goto (t := 1347) C dL_law__863 (by decide) ?_
    exact g_lv [0, 1, 2, 3, 4] rfl (g_wide (by omega) (by omega) (kn _ _ _ _ _ w8.wi))
  · --k0
    refine g_aload_n (n := 852) C dL_law__851 rfl rfl ?_
    refine g_iconst (n := 853) (v := 0) C dL_law__852 rfl (by decide) ?_
    obtain ⟨O9, ho9, hp9⟩ := w8.row
    refine g_lald (n := 854) C dL_law__853 rfl ho9 (by unfold vp_in; decide) ?_
    rw [show O9 (Int32.toNatClampNeg 0) = _ from hp9 zck]
    refine g_iload (n := 856) C dL_law__854 rfl rfl ?_
    refine g_i2l (n := 857) C dL_law__856 rfl ?_
    refine g_lcmp (n := 858) C dL_law__857 rfl ?_
    rw [lg_same]
    refine g_if_eq (n := 861) (t := 863) C dL_law__858 rfl (by decide) (fun _ => ?_) (fun zc => absurd rfl zc)
    refine g_goto (t := 1347) C dL_law__863 (by decide) ?_
    exact g_lv [0, 1, 2, 3, 4] rfl (g_wide (by omega) (by omega) (kn _ _ _ _ _ w8.wi))
theorem dL_law__866 : decode cL_law_ 866 = .ok (.aload_n 1, 1) := by decide +kernel
theorem dL_law__867 : decode cL_law_ 867 = .ok (.aload_n 0, 1) := by decide +kernel
theorem dL_law__868 : decode cL_law_ 868 = .ok (.iload 4, 2) := by decide +kernel
theorem dL_law__870 : decode cL_law_ 870 = .ok (.iconst 1, 1) := by decide +kernel
theorem dL_law__871 : decode cL_law_ 871 = .ok (.iadd, 1) := by decide +kernel
theorem dL_law__872 : decode cL_law_ 872 = .ok (.iaload, 1) := by decide +kernel
theorem dL_law__873 : decode cL_law_ 873 = .ok (.aload_n 3, 1) := by decide +kernel
theorem dL_law__874 : decode cL_law_ 874 = .ok (.invokestatic 138, 3) := by decide +kernel
theorem dL_law__877 : decode cL_law_ 877 = .ok (.istore 5, 2) := by decide +kernel
theorem dL_law__879 : decode cL_law_ 879 = .ok (.aload_n 2, 1) := by decide +kernel
theorem dL_law__880 : decode cL_law_ 880 = .ok (.aload_n 0, 1) := by decide +kernel
theorem dL_law__881 : decode cL_law_ 881 = .ok (.iload 4, 2) := by decide +kernel
theorem dL_law__883 : decode cL_law_ 883 = .ok (.iconst 1, 1) := by decide +kernel
theorem dL_law__884 : decode cL_law_ 884 = .ok (.iadd, 1) := by decide +kernel
theorem dL_law__885 : decode cL_law_ 885 = .ok (.iaload, 1) := by decide +kernel
theorem dL_law__886 : decode cL_law_ 886 = .ok (.invokevirtual 140, 3) := by decide +kernel
theorem dL_law__889 : decode cL_law_ 889 = .ok (.istore 6, 2) := by decide +kernel
theorem dL_law__891 : decode cL_law_ 891 = .ok (.aload_n 2, 1) := by decide +kernel
theorem dL_law__892 : decode cL_law_ 892 = .ok (.invokevirtual 96, 3) := by decide +kernel
theorem dL_law__895 : decode cL_law_ 895 = .ok (.iload 5, 2) := by decide +kernel
theorem dL_law__897 : decode cL_law_ 897 = .ok (.if_icmp .eq 5, 3) := by decide +kernel
theorem dL_law__902 : decode cL_law_ 902 = .ok (.iload 5, 2) := by decide +kernel
theorem dL_law__904 : decode cL_law_ 904 = .ok (.ifCond .ne 15, 3) := by decide +kernel
theorem dL_law__907 : decode cL_law_ 907 = .ok (.aload_n 3, 1) := by decide +kernel
theorem dL_law__908 : decode cL_law_ 908 = .ok (.iconst 0, 1) := by decide +kernel
theorem dL_law__909 : decode cL_law_ 909 = .ok (.laload, 1) := by decide +kernel
theorem dL_law__910 : decode cL_law_ 910 = .ok (.iload 6, 2) := by decide +kernel
theorem dL_law__912 : decode cL_law_ 912 = .ok (.i2l, 1) := by decide +kernel
theorem dL_law__913 : decode cL_law_ 913 = .ok (.lcmp, 1) := by decide +kernel
theorem dL_law__914 : decode cL_law_ 914 = .ok (.ifCond .eq 5, 3) := by decide +kernel
theorem dL_law__919 : decode cL_law_ 919 = .ok (.goto 428, 3) := by decide +kernel
set_option maxHeartbeats 2000000 in
set_option maxRecDepth 20000 in
theorem sg_lay {K : Cx} {E : Ev} {nm : String} {Q : State → Prop} {cs ss sa x o ou i L n m : Nat} {xs : Nat → Int32} {F : Nat → Int32} {A : Nat → Nat → Int32} {h : AH} (C : GX K E cL_law_ 7 RL (some .boolean) nm) (hK : kR K = room_1) (hl9 : (kl K).stackTraces = false) (S : SX K E sa L xs) (hL : L ≤ 3072) (hi : i + 6 ≤ L) (hc : cs + 100 ≤ 601024) (hs : ss + 20000 ≤ 7293034) (I : WI E x o ou F A n m F A h) (kn : ∀ F9 A9 n9 m9 h9, WI E x o ou F9 A9 n9 m9 F9 A9 h9 → G K E 7 Q (cs + 8) (ss + 200) 1347 [(0, .ref sa), (1, .ref x), (2, .ref o), (3, .ref ou), (4, .int (nI i))] [] h9) : G K E 7 Q cs ss 866 [(0, .ref sa), (1, .ref x), (2, .ref o), (3, .ref ou), (4, .int (nI i))] [] h := by
  refine g_aload_n (n := 867) C dL_law__866 rfl rfl ?_
  refine g_aload_n (n := 868) C dL_law__867 rfl rfl ?_
  refine g_iload (n := 870) C dL_law__868 rfl rfl ?_
  refine g_iconst (n := 871) (v := 1) C dL_law__870 rfl (by decide) ?_
  refine g_iadd (n := 872) C dL_law__871 rfl ?_
  refine g_sld (n := 873) C S dL_law__872 rfl (s_in 1 hL hi (by decide)) ?_
  refine g_aload_n (n := 874) C dL_law__873 rfl rfl ?_
  obtain ⟨k, v, F9, A9, n9, m9, hk, hM, hr⟩ := oc_lay (p := (xs (nI i + 1).toNatClampNeg)) I hl9
  refine g_callSW (n := 877) (As := [.ref x, .int (xs (nI i + 1).toNatClampNeg), .ref ou]) C dL_law__874 rfl mw_L_lay w_987 rfl rfl (lroom hK (by omega) (by omega) ⟨by decide, by decide, by decide, by decide, Nat.le_of_ble_eq_true rfl⟩) (lw_lay I hM (fun h1 w9 => ?_))
  refine g_istore (n := 879) C dL_law__877 rfl (by decide) ?_
  refine g_aload_n (n := 880) C dL_law__879 rfl rfl ?_
  refine g_aload_n (n := 881) C dL_law__880 rfl rfl ?_
  refine g_iload (n := 883) C dL_law__881 rfl rfl ?_
  refine g_iconst (n := 884) (v := 1) C dL_law__883 rfl (by decide) ?_
  refine g_iadd (n := 885) C dL_law__884 rfl ?_
  refine g_sld (n := 886) C S dL_law__885 rfl (s_in 1 hL hi (by decide)) ?_
  obtain ⟨adm, e9, hI9, hw9⟩ := w9.mh
  rw [e9]
  refine g_callV (n := 889) (As := [.int (xs (nI i + 1).toNatClampNeg)]) C dL_law__886 rfl mw_X11_lay w_1337 (g_recv C mh_o rfl) rfl rfl (lroom hK (by omega) (by omega) ⟨by decide, by decide, by decide, by decide, Nat.le_of_ble_eq_true rfl⟩) (hr adm h1 _ hI9 ?_)
  have w8 := hw9 F9 A9
  refine g_istore (n := 891) C dL_law__889 rfl (by decide) ?_
  refine g_aload_n (n := 892) C dL_law__891 rfl rfl ?_
  refine g_callV (n := 895) (As := []) C dL_law__892 rfl mw_X11_thrown w_1194 (g_recv C mh_o rfl) rfl rfl (lroom hK (by omega) (by omega) ⟨by decide, by decide, by decide, by decide, Nat.le_of_ble_eq_true rfl⟩) (ct_thrown ?_)
  rw [hk]
  refine g_iload (n := 897) C dL_law__895 rfl rfl ?_
  refine g_icmp_eq (n := 900) (t := 902) C dL_law__897 rfl (by decide) (fun _ => ?_) (fun zc => absurd rfl zc)
  refine g_iload (n := 904) C dL_law__902 rfl rfl ?_
  refine g_if_ne (n := 907) (t := 919) C dL_law__904 rfl (by decide) (fun zck => ?_) (fun zck => ?_)
  · --k
    refine g_goto (t := 1347) C dL_law__919 (by decide) ?_
    exact g_lv [0, 1, 2, 3, 4] rfl (g_wide (by omega) (by omega) (kn _ _ _ _ _ w8.wi))
  · --k0
    refine g_aload_n (n := 908) C dL_law__907 rfl rfl ?_
    refine g_iconst (n := 909) (v := 0) C dL_law__908 rfl (by decide) ?_
    obtain ⟨O9, ho9, hp9⟩ := w8.row
    refine g_lald (n := 910) C dL_law__909 rfl ho9 (by unfold vp_in; decide) ?_
    rw [show O9 (Int32.toNatClampNeg 0) = _ from hp9 zck]
    refine g_iload (n := 912) C dL_law__910 rfl rfl ?_
    refine g_i2l (n := 913) C dL_law__912 rfl ?_
    refine g_lcmp (n := 914) C dL_law__913 rfl ?_
    rw [lg_same]
    refine g_if_eq (n := 917) (t := 919) C dL_law__914 rfl (by decide) (fun _ => ?_) (fun zc => absurd rfl zc)
    refine g_goto (t := 1347) C dL_law__919 (by decide) ?_
    exact g_lv [0, 1, 2, 3, 4] rfl (g_wide (by omega) (by omega) (kn _ _ _ _ _ w8.wi))
theorem dL_law__922 : decode cL_law_ 922 = .ok (.aload_n 1, 1) := by decide +kernel
theorem dL_law__923 : decode cL_law_ 923 = .ok (.aload_n 0, 1) := by decide +kernel
theorem dL_law__924 : decode cL_law_ 924 = .ok (.iload 4, 2) := by decide +kernel
theorem dL_law__926 : decode cL_law_ 926 = .ok (.iconst 1, 1) := by decide +kernel
theorem dL_law__927 : decode cL_law_ 927 = .ok (.iadd, 1) := by decide +kernel
theorem dL_law__928 : decode cL_law_ 928 = .ok (.iaload, 1) := by decide +kernel
theorem dL_law__929 : decode cL_law_ 929 = .ok (.aload_n 0, 1) := by decide +kernel
theorem dL_law__930 : decode cL_law_ 930 = .ok (.iload 4, 2) := by decide +kernel
theorem dL_law__932 : decode cL_law_ 932 = .ok (.iconst 2, 1) := by decide +kernel
theorem dL_law__933 : decode cL_law_ 933 = .ok (.iadd, 1) := by decide +kernel
theorem dL_law__934 : decode cL_law_ 934 = .ok (.iaload, 1) := by decide +kernel
theorem dL_law__935 : decode cL_law_ 935 = .ok (.aload_n 0, 1) := by decide +kernel
theorem dL_law__936 : decode cL_law_ 936 = .ok (.iload 4, 2) := by decide +kernel
theorem dL_law__938 : decode cL_law_ 938 = .ok (.iconst 3, 1) := by decide +kernel
theorem dL_law__939 : decode cL_law_ 939 = .ok (.iadd, 1) := by decide +kernel
theorem dL_law__940 : decode cL_law_ 940 = .ok (.iaload, 1) := by decide +kernel
theorem dL_law__941 : decode cL_law_ 941 = .ok (.aload_n 3, 1) := by decide +kernel
theorem dL_law__942 : decode cL_law_ 942 = .ok (.invokestatic 141, 3) := by decide +kernel
theorem dL_law__945 : decode cL_law_ 945 = .ok (.istore 5, 2) := by decide +kernel
theorem dL_law__947 : decode cL_law_ 947 = .ok (.aload_n 2, 1) := by decide +kernel
theorem dL_law__948 : decode cL_law_ 948 = .ok (.aload_n 0, 1) := by decide +kernel
theorem dL_law__949 : decode cL_law_ 949 = .ok (.iload 4, 2) := by decide +kernel
theorem dL_law__951 : decode cL_law_ 951 = .ok (.iconst 1, 1) := by decide +kernel
theorem dL_law__952 : decode cL_law_ 952 = .ok (.iadd, 1) := by decide +kernel
theorem dL_law__953 : decode cL_law_ 953 = .ok (.iaload, 1) := by decide +kernel
theorem dL_law__954 : decode cL_law_ 954 = .ok (.aload_n 0, 1) := by decide +kernel
theorem dL_law__955 : decode cL_law_ 955 = .ok (.iload 4, 2) := by decide +kernel
theorem dL_law__957 : decode cL_law_ 957 = .ok (.iconst 2, 1) := by decide +kernel
theorem dL_law__958 : decode cL_law_ 958 = .ok (.iadd, 1) := by decide +kernel
theorem dL_law__959 : decode cL_law_ 959 = .ok (.iaload, 1) := by decide +kernel
theorem dL_law__960 : decode cL_law_ 960 = .ok (.aload_n 0, 1) := by decide +kernel
theorem dL_law__961 : decode cL_law_ 961 = .ok (.iload 4, 2) := by decide +kernel
theorem dL_law__963 : decode cL_law_ 963 = .ok (.iconst 3, 1) := by decide +kernel
theorem dL_law__964 : decode cL_law_ 964 = .ok (.iadd, 1) := by decide +kernel
theorem dL_law__965 : decode cL_law_ 965 = .ok (.iaload, 1) := by decide +kernel
theorem dL_law__966 : decode cL_law_ 966 = .ok (.invokevirtual 144, 3) := by decide +kernel
theorem dL_law__969 : decode cL_law_ 969 = .ok (.istore 6, 2) := by decide +kernel
theorem dL_law__971 : decode cL_law_ 971 = .ok (.aload_n 2, 1) := by decide +kernel
theorem dL_law__972 : decode cL_law_ 972 = .ok (.invokevirtual 96, 3) := by decide +kernel
theorem dL_law__975 : decode cL_law_ 975 = .ok (.iload 5, 2) := by decide +kernel
theorem dL_law__977 : decode cL_law_ 977 = .ok (.if_icmp .eq 5, 3) := by decide +kernel
theorem dL_law__982 : decode cL_law_ 982 = .ok (.iload 5, 2) := by decide +kernel
theorem dL_law__984 : decode cL_law_ 984 = .ok (.ifCond .ne 22, 3) := by decide +kernel
theorem dL_law__987 : decode cL_law_ 987 = .ok (.aload_n 3, 1) := by decide +kernel
theorem dL_law__988 : decode cL_law_ 988 = .ok (.iconst 0, 1) := by decide +kernel
theorem dL_law__989 : decode cL_law_ 989 = .ok (.laload, 1) := by decide +kernel
theorem dL_law__990 : decode cL_law_ 990 = .ok (.iload 6, 2) := by decide +kernel
theorem dL_law__992 : decode cL_law_ 992 = .ok (.ifCond .eq 7, 3) := by decide +kernel
theorem dL_law__995 : decode cL_law_ 995 = .ok (.lconst 1, 1) := by decide +kernel
theorem dL_law__996 : decode cL_law_ 996 = .ok (.goto 4, 3) := by decide +kernel
theorem dL_law__999 : decode cL_law_ 999 = .ok (.lconst 0, 1) := by decide +kernel
theorem dL_law__1000 : decode cL_law_ 1000 = .ok (.lcmp, 1) := by decide +kernel
theorem dL_law__1001 : decode cL_law_ 1001 = .ok (.ifCond .eq 5, 3) := by decide +kernel
theorem dL_law__1006 : decode cL_law_ 1006 = .ok (.goto 341, 3) := by decide +kernel
set_option maxHeartbeats 2000000 in
set_option maxRecDepth 20000 in
theorem sg_hand {K : Cx} {E : Ev} {nm : String} {Q : State → Prop} {cs ss sa x o ou i L n m : Nat} {xs : Nat → Int32} {F : Nat → Int32} {A : Nat → Nat → Int32} {h : AH} (C : GX K E cL_law_ 7 RL (some .boolean) nm) (hK : kR K = room_1) (hl9 : (kl K).stackTraces = false) (S : SX K E sa L xs) (hL : L ≤ 3072) (hi : i + 6 ≤ L) (hc : cs + 100 ≤ 601024) (hs : ss + 20000 ≤ 7293034) (I : WI E x o ou F A n m F A h) (kn : ∀ F9 A9 n9 m9 h9, WI E x o ou F9 A9 n9 m9 F9 A9 h9 → G K E 7 Q (cs + 8) (ss + 200) 1347 [(0, .ref sa), (1, .ref x), (2, .ref o), (3, .ref ou), (4, .int (nI i))] [] h9) : G K E 7 Q cs ss 922 [(0, .ref sa), (1, .ref x), (2, .ref o), (3, .ref ou), (4, .int (nI i))] [] h := by
  refine g_aload_n (n := 923) C dL_law__922 rfl rfl ?_
  refine g_aload_n (n := 924) C dL_law__923 rfl rfl ?_
  refine g_iload (n := 926) C dL_law__924 rfl rfl ?_
  refine g_iconst (n := 927) (v := 1) C dL_law__926 rfl (by decide) ?_
  refine g_iadd (n := 928) C dL_law__927 rfl ?_
  refine g_sld (n := 929) C S dL_law__928 rfl (s_in 1 hL hi (by decide)) ?_
  refine g_aload_n (n := 930) C dL_law__929 rfl rfl ?_
  refine g_iload (n := 932) C dL_law__930 rfl rfl ?_
  refine g_iconst (n := 933) (v := 2) C dL_law__932 rfl (by decide) ?_
  refine g_iadd (n := 934) C dL_law__933 rfl ?_
  refine g_sld (n := 935) C S dL_law__934 rfl (s_in 2 hL hi (by decide)) ?_
  refine g_aload_n (n := 936) C dL_law__935 rfl rfl ?_
  refine g_iload (n := 938) C dL_law__936 rfl rfl ?_
  refine g_iconst (n := 939) (v := 3) C dL_law__938 rfl (by decide) ?_
  refine g_iadd (n := 940) C dL_law__939 rfl ?_
  refine g_sld (n := 941) C S dL_law__940 rfl (s_in 3 hL hi (by decide)) ?_
  refine g_aload_n (n := 942) C dL_law__941 rfl rfl ?_
  obtain ⟨k, v, F9, A9, n9, m9, hk, hM, hr⟩ := oc_hand (s := (xs (nI i + 1).toNatClampNeg)) (b := (xs (nI i + 2).toNatClampNeg)) (x9 := (xs (nI i + 3).toNatClampNeg)) I hl9
  refine g_callSW (n := 945) (As := [.ref x, .int (xs (nI i + 1).toNatClampNeg), .int (xs (nI i + 2).toNatClampNeg), .int (xs (nI i + 3).toNatClampNeg), .ref ou]) C dL_law__942 rfl mw_L_hand w_1001 rfl rfl (lroom hK (by omega) (by omega) ⟨by decide, by decide, by decide, by decide, Nat.le_of_ble_eq_true rfl⟩) (lw_hand I hM (fun h1 w9 => ?_))
  refine g_istore (n := 947) C dL_law__945 rfl (by decide) ?_
  refine g_aload_n (n := 948) C dL_law__947 rfl rfl ?_
  refine g_aload_n (n := 949) C dL_law__948 rfl rfl ?_
  refine g_iload (n := 951) C dL_law__949 rfl rfl ?_
  refine g_iconst (n := 952) (v := 1) C dL_law__951 rfl (by decide) ?_
  refine g_iadd (n := 953) C dL_law__952 rfl ?_
  refine g_sld (n := 954) C S dL_law__953 rfl (s_in 1 hL hi (by decide)) ?_
  refine g_aload_n (n := 955) C dL_law__954 rfl rfl ?_
  refine g_iload (n := 957) C dL_law__955 rfl rfl ?_
  refine g_iconst (n := 958) (v := 2) C dL_law__957 rfl (by decide) ?_
  refine g_iadd (n := 959) C dL_law__958 rfl ?_
  refine g_sld (n := 960) C S dL_law__959 rfl (s_in 2 hL hi (by decide)) ?_
  refine g_aload_n (n := 961) C dL_law__960 rfl rfl ?_
  refine g_iload (n := 963) C dL_law__961 rfl rfl ?_
  refine g_iconst (n := 964) (v := 3) C dL_law__963 rfl (by decide) ?_
  refine g_iadd (n := 965) C dL_law__964 rfl ?_
  refine g_sld (n := 966) C S dL_law__965 rfl (s_in 3 hL hi (by decide)) ?_
  obtain ⟨adm, e9, hI9, hw9⟩ := w9.mh
  rw [e9]
  refine g_callV (n := 969) (As := [.int (xs (nI i + 1).toNatClampNeg), .int (xs (nI i + 2).toNatClampNeg), .int (xs (nI i + 3).toNatClampNeg)]) C dL_law__966 rfl mw_X11_hand w_1342 (g_recv C mh_o rfl) rfl rfl (lroom hK (by omega) (by omega) ⟨by decide, by decide, by decide, by decide, Nat.le_of_ble_eq_true rfl⟩) (hr adm h1 _ hI9 ?_)
  have w8 := hw9 F9 A9
  refine g_istore (n := 971) C dL_law__969 rfl (by decide) ?_
  refine g_aload_n (n := 972) C dL_law__971 rfl rfl ?_
  refine g_callV (n := 975) (As := []) C dL_law__972 rfl mw_X11_thrown w_1194 (g_recv C mh_o rfl) rfl rfl (lroom hK (by omega) (by omega) ⟨by decide, by decide, by decide, by decide, Nat.le_of_ble_eq_true rfl⟩) (ct_thrown ?_)
  rw [hk]
  refine g_iload (n := 977) C dL_law__975 rfl rfl ?_
  refine g_icmp_eq (n := 980) (t := 982) C dL_law__977 rfl (by decide) (fun _ => ?_) (fun zc => absurd rfl zc)
  refine g_iload (n := 984) C dL_law__982 rfl rfl ?_
  refine g_if_ne (n := 987) (t := 1006) C dL_law__984 rfl (by decide) (fun zck => ?_) (fun zck => ?_)
  · --k
    refine g_goto (t := 1347) C dL_law__1006 (by decide) ?_
    exact g_lv [0, 1, 2, 3, 4] rfl (g_wide (by omega) (by omega) (kn _ _ _ _ _ w8.wi))
  · --k0
    refine g_aload_n (n := 988) C dL_law__987 rfl rfl ?_
    refine g_iconst (n := 989) (v := 0) C dL_law__988 rfl (by decide) ?_
    obtain ⟨O9, ho9, hp9⟩ := w8.row
    refine g_lald (n := 990) C dL_law__989 rfl ho9 (by unfold vp_in; decide) ?_
    rw [show O9 (Int32.toNatClampNeg 0) = _ from hp9 zck]
    refine g_iload (n := 992) C dL_law__990 rfl rfl ?_
    refine g_if_eq (n := 995) (t := 999) C dL_law__992 rfl (by decide) (fun zcv => ?_) (fun zcv => ?_)
    · --v0
      refine g_lconst (n := 1000) (v := 0) C dL_law__999 rfl (by decide) ?_
      rw [if_pos zcv]
      refine g_lcmp (n := 1001) C dL_law__1000 rfl ?_
      rw [lg_same]
      refine g_if_eq (n := 1004) (t := 1006) C dL_law__1001 rfl (by decide) (fun _ => ?_) (fun zc => absurd rfl zc)
      refine g_goto (t := 1347) C dL_law__1006 (by decide) ?_
      exact g_lv [0, 1, 2, 3, 4] rfl (g_wide (by omega) (by omega) (kn _ _ _ _ _ w8.wi))
    · --v1
      refine g_lconst (n := 996) (v := 1) C dL_law__995 rfl (by decide) ?_
      refine g_goto (t := 1000) C dL_law__996 (by decide) ?_
      rw [if_neg zcv]
      refine g_lcmp (n := 1001) C dL_law__1000 rfl ?_
      rw [lg_same]
      refine g_if_eq (n := 1004) (t := 1006) C dL_law__1001 rfl (by decide) (fun _ => ?_) (fun zc => absurd rfl zc)
      refine g_goto (t := 1347) C dL_law__1006 (by decide) ?_
      exact g_lv [0, 1, 2, 3, 4] rfl (g_wide (by omega) (by omega) (kn _ _ _ _ _ w8.wi))
theorem dL_law__1009 : decode cL_law_ 1009 = .ok (.aload_n 1, 1) := by decide +kernel
theorem dL_law__1010 : decode cL_law_ 1010 = .ok (.aload_n 0, 1) := by decide +kernel
theorem dL_law__1011 : decode cL_law_ 1011 = .ok (.iload 4, 2) := by decide +kernel
theorem dL_law__1013 : decode cL_law_ 1013 = .ok (.iconst 1, 1) := by decide +kernel
theorem dL_law__1014 : decode cL_law_ 1014 = .ok (.iadd, 1) := by decide +kernel
theorem dL_law__1015 : decode cL_law_ 1015 = .ok (.iaload, 1) := by decide +kernel
theorem dL_law__1016 : decode cL_law_ 1016 = .ok (.aload_n 0, 1) := by decide +kernel
theorem dL_law__1017 : decode cL_law_ 1017 = .ok (.iload 4, 2) := by decide +kernel
theorem dL_law__1019 : decode cL_law_ 1019 = .ok (.iconst 2, 1) := by decide +kernel
theorem dL_law__1020 : decode cL_law_ 1020 = .ok (.iadd, 1) := by decide +kernel
theorem dL_law__1021 : decode cL_law_ 1021 = .ok (.iaload, 1) := by decide +kernel
theorem dL_law__1022 : decode cL_law_ 1022 = .ok (.aload_n 3, 1) := by decide +kernel
theorem dL_law__1023 : decode cL_law_ 1023 = .ok (.invokestatic 145, 3) := by decide +kernel
theorem dL_law__1026 : decode cL_law_ 1026 = .ok (.istore 5, 2) := by decide +kernel
theorem dL_law__1028 : decode cL_law_ 1028 = .ok (.aload_n 2, 1) := by decide +kernel
theorem dL_law__1029 : decode cL_law_ 1029 = .ok (.aload_n 0, 1) := by decide +kernel
theorem dL_law__1030 : decode cL_law_ 1030 = .ok (.iload 4, 2) := by decide +kernel
theorem dL_law__1032 : decode cL_law_ 1032 = .ok (.iconst 1, 1) := by decide +kernel
theorem dL_law__1033 : decode cL_law_ 1033 = .ok (.iadd, 1) := by decide +kernel
theorem dL_law__1034 : decode cL_law_ 1034 = .ok (.iaload, 1) := by decide +kernel
theorem dL_law__1035 : decode cL_law_ 1035 = .ok (.aload_n 0, 1) := by decide +kernel
theorem dL_law__1036 : decode cL_law_ 1036 = .ok (.iload 4, 2) := by decide +kernel
theorem dL_law__1038 : decode cL_law_ 1038 = .ok (.iconst 2, 1) := by decide +kernel
theorem dL_law__1039 : decode cL_law_ 1039 = .ok (.iadd, 1) := by decide +kernel
theorem dL_law__1040 : decode cL_law_ 1040 = .ok (.iaload, 1) := by decide +kernel
theorem dL_law__1041 : decode cL_law_ 1041 = .ok (.invokevirtual 147, 3) := by decide +kernel
theorem dL_law__1044 : decode cL_law_ 1044 = .ok (.istore 6, 2) := by decide +kernel
theorem dL_law__1046 : decode cL_law_ 1046 = .ok (.aload_n 2, 1) := by decide +kernel
theorem dL_law__1047 : decode cL_law_ 1047 = .ok (.invokevirtual 96, 3) := by decide +kernel
theorem dL_law__1050 : decode cL_law_ 1050 = .ok (.iload 5, 2) := by decide +kernel
theorem dL_law__1052 : decode cL_law_ 1052 = .ok (.if_icmp .eq 5, 3) := by decide +kernel
theorem dL_law__1057 : decode cL_law_ 1057 = .ok (.iload 5, 2) := by decide +kernel
theorem dL_law__1059 : decode cL_law_ 1059 = .ok (.ifCond .ne 15, 3) := by decide +kernel
theorem dL_law__1062 : decode cL_law_ 1062 = .ok (.aload_n 3, 1) := by decide +kernel
theorem dL_law__1063 : decode cL_law_ 1063 = .ok (.iconst 0, 1) := by decide +kernel
theorem dL_law__1064 : decode cL_law_ 1064 = .ok (.laload, 1) := by decide +kernel
theorem dL_law__1065 : decode cL_law_ 1065 = .ok (.iload 6, 2) := by decide +kernel
theorem dL_law__1067 : decode cL_law_ 1067 = .ok (.i2l, 1) := by decide +kernel
theorem dL_law__1068 : decode cL_law_ 1068 = .ok (.lcmp, 1) := by decide +kernel
theorem dL_law__1069 : decode cL_law_ 1069 = .ok (.ifCond .eq 5, 3) := by decide +kernel
theorem dL_law__1074 : decode cL_law_ 1074 = .ok (.goto 273, 3) := by decide +kernel
set_option maxHeartbeats 2000000 in
set_option maxRecDepth 20000 in
theorem sg_sell {K : Cx} {E : Ev} {nm : String} {Q : State → Prop} {cs ss sa x o ou i L n m : Nat} {xs : Nat → Int32} {F : Nat → Int32} {A : Nat → Nat → Int32} {h : AH} (C : GX K E cL_law_ 7 RL (some .boolean) nm) (hK : kR K = room_1) (hl9 : (kl K).stackTraces = false) (S : SX K E sa L xs) (hL : L ≤ 3072) (hi : i + 6 ≤ L) (hc : cs + 100 ≤ 601024) (hs : ss + 20000 ≤ 7293034) (I : WI E x o ou F A n m F A h) (kn : ∀ F9 A9 n9 m9 h9, WI E x o ou F9 A9 n9 m9 F9 A9 h9 → G K E 7 Q (cs + 8) (ss + 200) 1347 [(0, .ref sa), (1, .ref x), (2, .ref o), (3, .ref ou), (4, .int (nI i))] [] h9) : G K E 7 Q cs ss 1009 [(0, .ref sa), (1, .ref x), (2, .ref o), (3, .ref ou), (4, .int (nI i))] [] h := by
  refine g_aload_n (n := 1010) C dL_law__1009 rfl rfl ?_
  refine g_aload_n (n := 1011) C dL_law__1010 rfl rfl ?_
  refine g_iload (n := 1013) C dL_law__1011 rfl rfl ?_
  refine g_iconst (n := 1014) (v := 1) C dL_law__1013 rfl (by decide) ?_
  refine g_iadd (n := 1015) C dL_law__1014 rfl ?_
  refine g_sld (n := 1016) C S dL_law__1015 rfl (s_in 1 hL hi (by decide)) ?_
  refine g_aload_n (n := 1017) C dL_law__1016 rfl rfl ?_
  refine g_iload (n := 1019) C dL_law__1017 rfl rfl ?_
  refine g_iconst (n := 1020) (v := 2) C dL_law__1019 rfl (by decide) ?_
  refine g_iadd (n := 1021) C dL_law__1020 rfl ?_
  refine g_sld (n := 1022) C S dL_law__1021 rfl (s_in 2 hL hi (by decide)) ?_
  refine g_aload_n (n := 1023) C dL_law__1022 rfl rfl ?_
  obtain ⟨k, v, F9, A9, n9, m9, hk, hM, hr⟩ := oc_sell (s := (xs (nI i + 1).toNatClampNeg)) (lim := (xs (nI i + 2).toNatClampNeg)) I hl9
  refine g_callSW (n := 1026) (As := [.ref x, .int (xs (nI i + 1).toNatClampNeg), .int (xs (nI i + 2).toNatClampNeg), .ref ou]) C dL_law__1023 rfl mw_L_sell w_1032 rfl rfl (lroom hK (by omega) (by omega) ⟨by decide, by decide, by decide, by decide, Nat.le_of_ble_eq_true rfl⟩) (lw_sell I hM (fun h1 w9 => ?_))
  refine g_istore (n := 1028) C dL_law__1026 rfl (by decide) ?_
  refine g_aload_n (n := 1029) C dL_law__1028 rfl rfl ?_
  refine g_aload_n (n := 1030) C dL_law__1029 rfl rfl ?_
  refine g_iload (n := 1032) C dL_law__1030 rfl rfl ?_
  refine g_iconst (n := 1033) (v := 1) C dL_law__1032 rfl (by decide) ?_
  refine g_iadd (n := 1034) C dL_law__1033 rfl ?_
  refine g_sld (n := 1035) C S dL_law__1034 rfl (s_in 1 hL hi (by decide)) ?_
  refine g_aload_n (n := 1036) C dL_law__1035 rfl rfl ?_
  refine g_iload (n := 1038) C dL_law__1036 rfl rfl ?_
  refine g_iconst (n := 1039) (v := 2) C dL_law__1038 rfl (by decide) ?_
  refine g_iadd (n := 1040) C dL_law__1039 rfl ?_
  refine g_sld (n := 1041) C S dL_law__1040 rfl (s_in 2 hL hi (by decide)) ?_
  obtain ⟨adm, e9, hI9, hw9⟩ := w9.mh
  rw [e9]
  refine g_callV (n := 1044) (As := [.int (xs (nI i + 1).toNatClampNeg), .int (xs (nI i + 2).toNatClampNeg)]) C dL_law__1041 rfl mw_X11_sell w_1351 (g_recv C mh_o rfl) rfl rfl (lroom hK (by omega) (by omega) ⟨by decide, by decide, by decide, by decide, Nat.le_of_ble_eq_true rfl⟩) (hr adm h1 _ hI9 ?_)
  have w8 := hw9 F9 A9
  refine g_istore (n := 1046) C dL_law__1044 rfl (by decide) ?_
  refine g_aload_n (n := 1047) C dL_law__1046 rfl rfl ?_
  refine g_callV (n := 1050) (As := []) C dL_law__1047 rfl mw_X11_thrown w_1194 (g_recv C mh_o rfl) rfl rfl (lroom hK (by omega) (by omega) ⟨by decide, by decide, by decide, by decide, Nat.le_of_ble_eq_true rfl⟩) (ct_thrown ?_)
  rw [hk]
  refine g_iload (n := 1052) C dL_law__1050 rfl rfl ?_
  refine g_icmp_eq (n := 1055) (t := 1057) C dL_law__1052 rfl (by decide) (fun _ => ?_) (fun zc => absurd rfl zc)
  refine g_iload (n := 1059) C dL_law__1057 rfl rfl ?_
  refine g_if_ne (n := 1062) (t := 1074) C dL_law__1059 rfl (by decide) (fun zck => ?_) (fun zck => ?_)
  · --k
    refine g_goto (t := 1347) C dL_law__1074 (by decide) ?_
    exact g_lv [0, 1, 2, 3, 4] rfl (g_wide (by omega) (by omega) (kn _ _ _ _ _ w8.wi))
  · --k0
    refine g_aload_n (n := 1063) C dL_law__1062 rfl rfl ?_
    refine g_iconst (n := 1064) (v := 0) C dL_law__1063 rfl (by decide) ?_
    obtain ⟨O9, ho9, hp9⟩ := w8.row
    refine g_lald (n := 1065) C dL_law__1064 rfl ho9 (by unfold vp_in; decide) ?_
    rw [show O9 (Int32.toNatClampNeg 0) = _ from hp9 zck]
    refine g_iload (n := 1067) C dL_law__1065 rfl rfl ?_
    refine g_i2l (n := 1068) C dL_law__1067 rfl ?_
    refine g_lcmp (n := 1069) C dL_law__1068 rfl ?_
    rw [lg_same]
    refine g_if_eq (n := 1072) (t := 1074) C dL_law__1069 rfl (by decide) (fun _ => ?_) (fun zc => absurd rfl zc)
    refine g_goto (t := 1347) C dL_law__1074 (by decide) ?_
    exact g_lv [0, 1, 2, 3, 4] rfl (g_wide (by omega) (by omega) (kn _ _ _ _ _ w8.wi))
theorem dL_law__1077 : decode cL_law_ 1077 = .ok (.aload_n 1, 1) := by decide +kernel
theorem dL_law__1078 : decode cL_law_ 1078 = .ok (.aload_n 0, 1) := by decide +kernel
theorem dL_law__1079 : decode cL_law_ 1079 = .ok (.iload 4, 2) := by decide +kernel
theorem dL_law__1081 : decode cL_law_ 1081 = .ok (.iconst 1, 1) := by decide +kernel
theorem dL_law__1082 : decode cL_law_ 1082 = .ok (.iadd, 1) := by decide +kernel
theorem dL_law__1083 : decode cL_law_ 1083 = .ok (.iaload, 1) := by decide +kernel
theorem dL_law__1084 : decode cL_law_ 1084 = .ok (.aload_n 0, 1) := by decide +kernel
theorem dL_law__1085 : decode cL_law_ 1085 = .ok (.iload 4, 2) := by decide +kernel
theorem dL_law__1087 : decode cL_law_ 1087 = .ok (.iconst 2, 1) := by decide +kernel
theorem dL_law__1088 : decode cL_law_ 1088 = .ok (.iadd, 1) := by decide +kernel
theorem dL_law__1089 : decode cL_law_ 1089 = .ok (.iaload, 1) := by decide +kernel
theorem dL_law__1090 : decode cL_law_ 1090 = .ok (.aload_n 3, 1) := by decide +kernel
theorem dL_law__1091 : decode cL_law_ 1091 = .ok (.invokestatic 148, 3) := by decide +kernel
theorem dL_law__1094 : decode cL_law_ 1094 = .ok (.istore 5, 2) := by decide +kernel
theorem dL_law__1096 : decode cL_law_ 1096 = .ok (.aload_n 2, 1) := by decide +kernel
theorem dL_law__1097 : decode cL_law_ 1097 = .ok (.aload_n 0, 1) := by decide +kernel
theorem dL_law__1098 : decode cL_law_ 1098 = .ok (.iload 4, 2) := by decide +kernel
theorem dL_law__1100 : decode cL_law_ 1100 = .ok (.iconst 1, 1) := by decide +kernel
theorem dL_law__1101 : decode cL_law_ 1101 = .ok (.iadd, 1) := by decide +kernel
theorem dL_law__1102 : decode cL_law_ 1102 = .ok (.iaload, 1) := by decide +kernel
theorem dL_law__1103 : decode cL_law_ 1103 = .ok (.aload_n 0, 1) := by decide +kernel
theorem dL_law__1104 : decode cL_law_ 1104 = .ok (.iload 4, 2) := by decide +kernel
theorem dL_law__1106 : decode cL_law_ 1106 = .ok (.iconst 2, 1) := by decide +kernel
theorem dL_law__1107 : decode cL_law_ 1107 = .ok (.iadd, 1) := by decide +kernel
theorem dL_law__1108 : decode cL_law_ 1108 = .ok (.iaload, 1) := by decide +kernel
theorem dL_law__1109 : decode cL_law_ 1109 = .ok (.invokevirtual 150, 3) := by decide +kernel
theorem dL_law__1112 : decode cL_law_ 1112 = .ok (.istore 6, 2) := by decide +kernel
theorem dL_law__1114 : decode cL_law_ 1114 = .ok (.aload_n 2, 1) := by decide +kernel
theorem dL_law__1115 : decode cL_law_ 1115 = .ok (.invokevirtual 96, 3) := by decide +kernel
theorem dL_law__1118 : decode cL_law_ 1118 = .ok (.iload 5, 2) := by decide +kernel
theorem dL_law__1120 : decode cL_law_ 1120 = .ok (.if_icmp .eq 5, 3) := by decide +kernel
theorem dL_law__1125 : decode cL_law_ 1125 = .ok (.iload 5, 2) := by decide +kernel
theorem dL_law__1127 : decode cL_law_ 1127 = .ok (.ifCond .ne 15, 3) := by decide +kernel
theorem dL_law__1130 : decode cL_law_ 1130 = .ok (.aload_n 3, 1) := by decide +kernel
theorem dL_law__1131 : decode cL_law_ 1131 = .ok (.iconst 0, 1) := by decide +kernel
theorem dL_law__1132 : decode cL_law_ 1132 = .ok (.laload, 1) := by decide +kernel
theorem dL_law__1133 : decode cL_law_ 1133 = .ok (.iload 6, 2) := by decide +kernel
theorem dL_law__1135 : decode cL_law_ 1135 = .ok (.i2l, 1) := by decide +kernel
theorem dL_law__1136 : decode cL_law_ 1136 = .ok (.lcmp, 1) := by decide +kernel
theorem dL_law__1137 : decode cL_law_ 1137 = .ok (.ifCond .eq 5, 3) := by decide +kernel
theorem dL_law__1142 : decode cL_law_ 1142 = .ok (.goto 205, 3) := by decide +kernel
set_option maxHeartbeats 2000000 in
set_option maxRecDepth 20000 in
theorem sg_part {K : Cx} {E : Ev} {nm : String} {Q : State → Prop} {cs ss sa x o ou i L n m : Nat} {xs : Nat → Int32} {F : Nat → Int32} {A : Nat → Nat → Int32} {h : AH} (C : GX K E cL_law_ 7 RL (some .boolean) nm) (hK : kR K = room_1) (hl9 : (kl K).stackTraces = false) (S : SX K E sa L xs) (hL : L ≤ 3072) (hi : i + 6 ≤ L) (hc : cs + 100 ≤ 601024) (hs : ss + 20000 ≤ 7293034) (I : WI E x o ou F A n m F A h) (kn : ∀ F9 A9 n9 m9 h9, WI E x o ou F9 A9 n9 m9 F9 A9 h9 → G K E 7 Q (cs + 8) (ss + 200) 1347 [(0, .ref sa), (1, .ref x), (2, .ref o), (3, .ref ou), (4, .int (nI i))] [] h9) : G K E 7 Q cs ss 1077 [(0, .ref sa), (1, .ref x), (2, .ref o), (3, .ref ou), (4, .int (nI i))] [] h := by
  refine g_aload_n (n := 1078) C dL_law__1077 rfl rfl ?_
  refine g_aload_n (n := 1079) C dL_law__1078 rfl rfl ?_
  refine g_iload (n := 1081) C dL_law__1079 rfl rfl ?_
  refine g_iconst (n := 1082) (v := 1) C dL_law__1081 rfl (by decide) ?_
  refine g_iadd (n := 1083) C dL_law__1082 rfl ?_
  refine g_sld (n := 1084) C S dL_law__1083 rfl (s_in 1 hL hi (by decide)) ?_
  refine g_aload_n (n := 1085) C dL_law__1084 rfl rfl ?_
  refine g_iload (n := 1087) C dL_law__1085 rfl rfl ?_
  refine g_iconst (n := 1088) (v := 2) C dL_law__1087 rfl (by decide) ?_
  refine g_iadd (n := 1089) C dL_law__1088 rfl ?_
  refine g_sld (n := 1090) C S dL_law__1089 rfl (s_in 2 hL hi (by decide)) ?_
  refine g_aload_n (n := 1091) C dL_law__1090 rfl rfl ?_
  obtain ⟨k, v, F9, A9, n9, m9, hk, hM, hr⟩ := oc_part (s := (xs (nI i + 1).toNatClampNeg)) (w := (xs (nI i + 2).toNatClampNeg)) I hl9
  refine g_callSW (n := 1094) (As := [.ref x, .int (xs (nI i + 1).toNatClampNeg), .int (xs (nI i + 2).toNatClampNeg), .ref ou]) C dL_law__1091 rfl mw_L_part w_1058 rfl rfl (lroom hK (by omega) (by omega) ⟨by decide, by decide, by decide, by decide, Nat.le_of_ble_eq_true rfl⟩) (lw_part I hM (fun h1 w9 => ?_))
  refine g_istore (n := 1096) C dL_law__1094 rfl (by decide) ?_
  refine g_aload_n (n := 1097) C dL_law__1096 rfl rfl ?_
  refine g_aload_n (n := 1098) C dL_law__1097 rfl rfl ?_
  refine g_iload (n := 1100) C dL_law__1098 rfl rfl ?_
  refine g_iconst (n := 1101) (v := 1) C dL_law__1100 rfl (by decide) ?_
  refine g_iadd (n := 1102) C dL_law__1101 rfl ?_
  refine g_sld (n := 1103) C S dL_law__1102 rfl (s_in 1 hL hi (by decide)) ?_
  refine g_aload_n (n := 1104) C dL_law__1103 rfl rfl ?_
  refine g_iload (n := 1106) C dL_law__1104 rfl rfl ?_
  refine g_iconst (n := 1107) (v := 2) C dL_law__1106 rfl (by decide) ?_
  refine g_iadd (n := 1108) C dL_law__1107 rfl ?_
  refine g_sld (n := 1109) C S dL_law__1108 rfl (s_in 2 hL hi (by decide)) ?_
  obtain ⟨adm, e9, hI9, hw9⟩ := w9.mh
  rw [e9]
  refine g_callV (n := 1112) (As := [.int (xs (nI i + 1).toNatClampNeg), .int (xs (nI i + 2).toNatClampNeg)]) C dL_law__1109 rfl mw_X11_part w_1359 (g_recv C mh_o rfl) rfl rfl (lroom hK (by omega) (by omega) ⟨by decide, by decide, by decide, by decide, Nat.le_of_ble_eq_true rfl⟩) (hr adm h1 _ hI9 ?_)
  have w8 := hw9 F9 A9
  refine g_istore (n := 1114) C dL_law__1112 rfl (by decide) ?_
  refine g_aload_n (n := 1115) C dL_law__1114 rfl rfl ?_
  refine g_callV (n := 1118) (As := []) C dL_law__1115 rfl mw_X11_thrown w_1194 (g_recv C mh_o rfl) rfl rfl (lroom hK (by omega) (by omega) ⟨by decide, by decide, by decide, by decide, Nat.le_of_ble_eq_true rfl⟩) (ct_thrown ?_)
  rw [hk]
  refine g_iload (n := 1120) C dL_law__1118 rfl rfl ?_
  refine g_icmp_eq (n := 1123) (t := 1125) C dL_law__1120 rfl (by decide) (fun _ => ?_) (fun zc => absurd rfl zc)
  refine g_iload (n := 1127) C dL_law__1125 rfl rfl ?_
  refine g_if_ne (n := 1130) (t := 1142) C dL_law__1127 rfl (by decide) (fun zck => ?_) (fun zck => ?_)
  · --k
    refine g_goto (t := 1347) C dL_law__1142 (by decide) ?_
    exact g_lv [0, 1, 2, 3, 4] rfl (g_wide (by omega) (by omega) (kn _ _ _ _ _ w8.wi))
  · --k0
    refine g_aload_n (n := 1131) C dL_law__1130 rfl rfl ?_
    refine g_iconst (n := 1132) (v := 0) C dL_law__1131 rfl (by decide) ?_
    obtain ⟨O9, ho9, hp9⟩ := w8.row
    refine g_lald (n := 1133) C dL_law__1132 rfl ho9 (by unfold vp_in; decide) ?_
    rw [show O9 (Int32.toNatClampNeg 0) = _ from hp9 zck]
    refine g_iload (n := 1135) C dL_law__1133 rfl rfl ?_
    refine g_i2l (n := 1136) C dL_law__1135 rfl ?_
    refine g_lcmp (n := 1137) C dL_law__1136 rfl ?_
    rw [lg_same]
    refine g_if_eq (n := 1140) (t := 1142) C dL_law__1137 rfl (by decide) (fun _ => ?_) (fun zc => absurd rfl zc)
    refine g_goto (t := 1347) C dL_law__1142 (by decide) ?_
    exact g_lv [0, 1, 2, 3, 4] rfl (g_wide (by omega) (by omega) (kn _ _ _ _ _ w8.wi))
theorem dL_law__1145 : decode cL_law_ 1145 = .ok (.aload_n 1, 1) := by decide +kernel
theorem dL_law__1146 : decode cL_law_ 1146 = .ok (.aload_n 0, 1) := by decide +kernel
theorem dL_law__1147 : decode cL_law_ 1147 = .ok (.iload 4, 2) := by decide +kernel
theorem dL_law__1149 : decode cL_law_ 1149 = .ok (.iconst 1, 1) := by decide +kernel
theorem dL_law__1150 : decode cL_law_ 1150 = .ok (.iadd, 1) := by decide +kernel
theorem dL_law__1151 : decode cL_law_ 1151 = .ok (.iaload, 1) := by decide +kernel
theorem dL_law__1152 : decode cL_law_ 1152 = .ok (.aload_n 0, 1) := by decide +kernel
theorem dL_law__1153 : decode cL_law_ 1153 = .ok (.iload 4, 2) := by decide +kernel
theorem dL_law__1155 : decode cL_law_ 1155 = .ok (.iconst 2, 1) := by decide +kernel
theorem dL_law__1156 : decode cL_law_ 1156 = .ok (.iadd, 1) := by decide +kernel
theorem dL_law__1157 : decode cL_law_ 1157 = .ok (.iaload, 1) := by decide +kernel
theorem dL_law__1158 : decode cL_law_ 1158 = .ok (.invokestatic 151, 3) := by decide +kernel
theorem dL_law__1161 : decode cL_law_ 1161 = .ok (.istore 5, 2) := by decide +kernel
theorem dL_law__1163 : decode cL_law_ 1163 = .ok (.aload_n 2, 1) := by decide +kernel
theorem dL_law__1164 : decode cL_law_ 1164 = .ok (.aload_n 0, 1) := by decide +kernel
theorem dL_law__1165 : decode cL_law_ 1165 = .ok (.iload 4, 2) := by decide +kernel
theorem dL_law__1167 : decode cL_law_ 1167 = .ok (.iconst 1, 1) := by decide +kernel
theorem dL_law__1168 : decode cL_law_ 1168 = .ok (.iadd, 1) := by decide +kernel
theorem dL_law__1169 : decode cL_law_ 1169 = .ok (.iaload, 1) := by decide +kernel
theorem dL_law__1170 : decode cL_law_ 1170 = .ok (.aload_n 0, 1) := by decide +kernel
theorem dL_law__1171 : decode cL_law_ 1171 = .ok (.iload 4, 2) := by decide +kernel
theorem dL_law__1173 : decode cL_law_ 1173 = .ok (.iconst 2, 1) := by decide +kernel
theorem dL_law__1174 : decode cL_law_ 1174 = .ok (.iadd, 1) := by decide +kernel
theorem dL_law__1175 : decode cL_law_ 1175 = .ok (.iaload, 1) := by decide +kernel
theorem dL_law__1176 : decode cL_law_ 1176 = .ok (.invokevirtual 154, 3) := by decide +kernel
theorem dL_law__1179 : decode cL_law_ 1179 = .ok (.aload_n 2, 1) := by decide +kernel
theorem dL_law__1180 : decode cL_law_ 1180 = .ok (.invokevirtual 96, 3) := by decide +kernel
theorem dL_law__1183 : decode cL_law_ 1183 = .ok (.iload 5, 2) := by decide +kernel
theorem dL_law__1185 : decode cL_law_ 1185 = .ok (.if_icmp .eq 5, 3) := by decide +kernel
theorem dL_law__1190 : decode cL_law_ 1190 = .ok (.goto 157, 3) := by decide +kernel
set_option maxHeartbeats 2000000 in
set_option maxRecDepth 20000 in
theorem sg_rough {K : Cx} {E : Ev} {nm : String} {Q : State → Prop} {cs ss sa x o ou i L n m : Nat} {xs : Nat → Int32} {F : Nat → Int32} {A : Nat → Nat → Int32} {h : AH} (C : GX K E cL_law_ 7 RL (some .boolean) nm) (hK : kR K = room_1) (hl9 : (kl K).stackTraces = false) (S : SX K E sa L xs) (hL : L ≤ 3072) (hi : i + 6 ≤ L) (hc : cs + 100 ≤ 601024) (hs : ss + 20000 ≤ 7293034) (I : WI E x o ou F A n m F A h) (kn : ∀ F9 A9 n9 m9 h9, WI E x o ou F9 A9 n9 m9 F9 A9 h9 → G K E 7 Q (cs + 8) (ss + 200) 1347 [(0, .ref sa), (1, .ref x), (2, .ref o), (3, .ref ou), (4, .int (nI i))] [] h9) : G K E 7 Q cs ss 1145 [(0, .ref sa), (1, .ref x), (2, .ref o), (3, .ref ou), (4, .int (nI i))] [] h := by
  refine g_aload_n (n := 1146) C dL_law__1145 rfl rfl ?_
  refine g_aload_n (n := 1147) C dL_law__1146 rfl rfl ?_
  refine g_iload (n := 1149) C dL_law__1147 rfl rfl ?_
  refine g_iconst (n := 1150) (v := 1) C dL_law__1149 rfl (by decide) ?_
  refine g_iadd (n := 1151) C dL_law__1150 rfl ?_
  refine g_sld (n := 1152) C S dL_law__1151 rfl (s_in 1 hL hi (by decide)) ?_
  refine g_aload_n (n := 1153) C dL_law__1152 rfl rfl ?_
  refine g_iload (n := 1155) C dL_law__1153 rfl rfl ?_
  refine g_iconst (n := 1156) (v := 2) C dL_law__1155 rfl (by decide) ?_
  refine g_iadd (n := 1157) C dL_law__1156 rfl ?_
  refine g_sld (n := 1158) C S dL_law__1157 rfl (s_in 2 hL hi (by decide)) ?_
  obtain ⟨k, v, F9, A9, n9, m9, hk, hM, hr⟩ := oc_rough (w := (xs (nI i + 1).toNatClampNeg)) (g := (xs (nI i + 2).toNatClampNeg)) I hl9
  refine g_callSW (n := 1161) (As := [.ref x, .int (xs (nI i + 1).toNatClampNeg), .int (xs (nI i + 2).toNatClampNeg)]) C dL_law__1158 rfl mw_L_rough w_1066 rfl rfl (lroom hK (by omega) (by omega) ⟨by decide, by decide, by decide, by decide, Nat.le_of_ble_eq_true rfl⟩) (lw_rough (v := v) I hM (fun h1 w9 => ?_))
  refine g_istore (n := 1163) C dL_law__1161 rfl (by decide) ?_
  refine g_aload_n (n := 1164) C dL_law__1163 rfl rfl ?_
  refine g_aload_n (n := 1165) C dL_law__1164 rfl rfl ?_
  refine g_iload (n := 1167) C dL_law__1165 rfl rfl ?_
  refine g_iconst (n := 1168) (v := 1) C dL_law__1167 rfl (by decide) ?_
  refine g_iadd (n := 1169) C dL_law__1168 rfl ?_
  refine g_sld (n := 1170) C S dL_law__1169 rfl (s_in 1 hL hi (by decide)) ?_
  refine g_aload_n (n := 1171) C dL_law__1170 rfl rfl ?_
  refine g_iload (n := 1173) C dL_law__1171 rfl rfl ?_
  refine g_iconst (n := 1174) (v := 2) C dL_law__1173 rfl (by decide) ?_
  refine g_iadd (n := 1175) C dL_law__1174 rfl ?_
  refine g_sld (n := 1176) C S dL_law__1175 rfl (s_in 2 hL hi (by decide)) ?_
  obtain ⟨adm, e9, hI9, hw9⟩ := w9.mh
  rw [e9]
  refine g_callV (n := 1179) (As := [.int (xs (nI i + 1).toNatClampNeg), .int (xs (nI i + 2).toNatClampNeg)]) C dL_law__1176 rfl mw_X11_rough w_1363 (g_recv C mh_o rfl) rfl rfl (lroom hK (by omega) (by omega) ⟨by decide, by decide, by decide, by decide, Nat.le_of_ble_eq_true rfl⟩) (hr adm h1 _ hI9 ?_)
  have w8 := hw9 F9 A9
  refine g_aload_n (n := 1180) C dL_law__1179 rfl rfl ?_
  refine g_callV (n := 1183) (As := []) C dL_law__1180 rfl mw_X11_thrown w_1194 (g_recv C mh_o rfl) rfl rfl (lroom hK (by omega) (by omega) ⟨by decide, by decide, by decide, by decide, Nat.le_of_ble_eq_true rfl⟩) (ct_thrown ?_)
  rw [hk]
  refine g_iload (n := 1185) C dL_law__1183 rfl rfl ?_
  refine g_icmp_eq (n := 1188) (t := 1190) C dL_law__1185 rfl (by decide) (fun _ => ?_) (fun zc => absurd rfl zc)
  refine g_goto (t := 1347) C dL_law__1190 (by decide) ?_
  exact g_lv [0, 1, 2, 3, 4] rfl (g_wide (by omega) (by omega) (kn _ _ _ _ _ w8.wi))
theorem dL_law__1193 : decode cL_law_ 1193 = .ok (.aload_n 1, 1) := by decide +kernel
theorem dL_law__1194 : decode cL_law_ 1194 = .ok (.aload_n 0, 1) := by decide +kernel
theorem dL_law__1195 : decode cL_law_ 1195 = .ok (.iload 4, 2) := by decide +kernel
theorem dL_law__1197 : decode cL_law_ 1197 = .ok (.iconst 1, 1) := by decide +kernel
theorem dL_law__1198 : decode cL_law_ 1198 = .ok (.iadd, 1) := by decide +kernel
theorem dL_law__1199 : decode cL_law_ 1199 = .ok (.iaload, 1) := by decide +kernel
theorem dL_law__1200 : decode cL_law_ 1200 = .ok (.aload_n 0, 1) := by decide +kernel
theorem dL_law__1201 : decode cL_law_ 1201 = .ok (.iload 4, 2) := by decide +kernel
theorem dL_law__1203 : decode cL_law_ 1203 = .ok (.iconst 2, 1) := by decide +kernel
theorem dL_law__1204 : decode cL_law_ 1204 = .ok (.iadd, 1) := by decide +kernel
theorem dL_law__1205 : decode cL_law_ 1205 = .ok (.iaload, 1) := by decide +kernel
theorem dL_law__1206 : decode cL_law_ 1206 = .ok (.aload_n 0, 1) := by decide +kernel
theorem dL_law__1207 : decode cL_law_ 1207 = .ok (.iload 4, 2) := by decide +kernel
theorem dL_law__1209 : decode cL_law_ 1209 = .ok (.iconst 3, 1) := by decide +kernel
theorem dL_law__1210 : decode cL_law_ 1210 = .ok (.iadd, 1) := by decide +kernel
theorem dL_law__1211 : decode cL_law_ 1211 = .ok (.iaload, 1) := by decide +kernel
theorem dL_law__1212 : decode cL_law_ 1212 = .ok (.ifCond .eq 7, 3) := by decide +kernel
theorem dL_law__1215 : decode cL_law_ 1215 = .ok (.iconst 1, 1) := by decide +kernel
theorem dL_law__1216 : decode cL_law_ 1216 = .ok (.goto 4, 3) := by decide +kernel
theorem dL_law__1219 : decode cL_law_ 1219 = .ok (.iconst 0, 1) := by decide +kernel
theorem dL_law__1220 : decode cL_law_ 1220 = .ok (.aload_n 3, 1) := by decide +kernel
theorem dL_law__1221 : decode cL_law_ 1221 = .ok (.invokestatic 155, 3) := by decide +kernel
theorem dL_law__1224 : decode cL_law_ 1224 = .ok (.istore 5, 2) := by decide +kernel
theorem dL_law__1226 : decode cL_law_ 1226 = .ok (.aload_n 2, 1) := by decide +kernel
theorem dL_law__1227 : decode cL_law_ 1227 = .ok (.aload_n 0, 1) := by decide +kernel
theorem dL_law__1228 : decode cL_law_ 1228 = .ok (.iload 4, 2) := by decide +kernel
theorem dL_law__1230 : decode cL_law_ 1230 = .ok (.iconst 1, 1) := by decide +kernel
theorem dL_law__1231 : decode cL_law_ 1231 = .ok (.iadd, 1) := by decide +kernel
theorem dL_law__1232 : decode cL_law_ 1232 = .ok (.iaload, 1) := by decide +kernel
theorem dL_law__1233 : decode cL_law_ 1233 = .ok (.aload_n 0, 1) := by decide +kernel
theorem dL_law__1234 : decode cL_law_ 1234 = .ok (.iload 4, 2) := by decide +kernel
theorem dL_law__1236 : decode cL_law_ 1236 = .ok (.iconst 2, 1) := by decide +kernel
theorem dL_law__1237 : decode cL_law_ 1237 = .ok (.iadd, 1) := by decide +kernel
theorem dL_law__1238 : decode cL_law_ 1238 = .ok (.iaload, 1) := by decide +kernel
theorem dL_law__1239 : decode cL_law_ 1239 = .ok (.aload_n 0, 1) := by decide +kernel
theorem dL_law__1240 : decode cL_law_ 1240 = .ok (.iload 4, 2) := by decide +kernel
theorem dL_law__1242 : decode cL_law_ 1242 = .ok (.iconst 3, 1) := by decide +kernel
theorem dL_law__1243 : decode cL_law_ 1243 = .ok (.iadd, 1) := by decide +kernel
theorem dL_law__1244 : decode cL_law_ 1244 = .ok (.iaload, 1) := by decide +kernel
theorem dL_law__1245 : decode cL_law_ 1245 = .ok (.ifCond .eq 7, 3) := by decide +kernel
theorem dL_law__1248 : decode cL_law_ 1248 = .ok (.iconst 1, 1) := by decide +kernel
theorem dL_law__1249 : decode cL_law_ 1249 = .ok (.goto 4, 3) := by decide +kernel
theorem dL_law__1252 : decode cL_law_ 1252 = .ok (.iconst 0, 1) := by decide +kernel
theorem dL_law__1253 : decode cL_law_ 1253 = .ok (.invokevirtual 158, 3) := by decide +kernel
theorem dL_law__1256 : decode cL_law_ 1256 = .ok (.istore 6, 2) := by decide +kernel
theorem dL_law__1258 : decode cL_law_ 1258 = .ok (.aload_n 2, 1) := by decide +kernel
theorem dL_law__1259 : decode cL_law_ 1259 = .ok (.invokevirtual 96, 3) := by decide +kernel
theorem dL_law__1262 : decode cL_law_ 1262 = .ok (.iload 5, 2) := by decide +kernel
theorem dL_law__1264 : decode cL_law_ 1264 = .ok (.if_icmp .eq 5, 3) := by decide +kernel
theorem dL_law__1269 : decode cL_law_ 1269 = .ok (.iload 5, 2) := by decide +kernel
theorem dL_law__1271 : decode cL_law_ 1271 = .ok (.ifCond .ne 22, 3) := by decide +kernel
theorem dL_law__1274 : decode cL_law_ 1274 = .ok (.aload_n 3, 1) := by decide +kernel
theorem dL_law__1275 : decode cL_law_ 1275 = .ok (.iconst 0, 1) := by decide +kernel
theorem dL_law__1276 : decode cL_law_ 1276 = .ok (.laload, 1) := by decide +kernel
theorem dL_law__1277 : decode cL_law_ 1277 = .ok (.iload 6, 2) := by decide +kernel
theorem dL_law__1279 : decode cL_law_ 1279 = .ok (.ifCond .eq 7, 3) := by decide +kernel
theorem dL_law__1282 : decode cL_law_ 1282 = .ok (.lconst 1, 1) := by decide +kernel
theorem dL_law__1283 : decode cL_law_ 1283 = .ok (.goto 4, 3) := by decide +kernel
theorem dL_law__1286 : decode cL_law_ 1286 = .ok (.lconst 0, 1) := by decide +kernel
theorem dL_law__1287 : decode cL_law_ 1287 = .ok (.lcmp, 1) := by decide +kernel
theorem dL_law__1288 : decode cL_law_ 1288 = .ok (.ifCond .eq 5, 3) := by decide +kernel
theorem dL_law__1293 : decode cL_law_ 1293 = .ok (.goto 54, 3) := by decide +kernel
set_option maxHeartbeats 2000000 in
set_option maxRecDepth 20000 in
theorem sg_flaw {K : Cx} {E : Ev} {nm : String} {Q : State → Prop} {cs ss sa x o ou i L n m : Nat} {xs : Nat → Int32} {F : Nat → Int32} {A : Nat → Nat → Int32} {h : AH} (C : GX K E cL_law_ 7 RL (some .boolean) nm) (hK : kR K = room_1) (hl9 : (kl K).stackTraces = false) (S : SX K E sa L xs) (hL : L ≤ 3072) (hi : i + 6 ≤ L) (hc : cs + 100 ≤ 601024) (hs : ss + 20000 ≤ 7293034) (I : WI E x o ou F A n m F A h) (kn : ∀ F9 A9 n9 m9 h9, WI E x o ou F9 A9 n9 m9 F9 A9 h9 → G K E 7 Q (cs + 8) (ss + 200) 1347 [(0, .ref sa), (1, .ref x), (2, .ref o), (3, .ref ou), (4, .int (nI i))] [] h9) : G K E 7 Q cs ss 1193 [(0, .ref sa), (1, .ref x), (2, .ref o), (3, .ref ou), (4, .int (nI i))] [] h := by
  refine g_aload_n (n := 1194) C dL_law__1193 rfl rfl ?_
  refine g_aload_n (n := 1195) C dL_law__1194 rfl rfl ?_
  refine g_iload (n := 1197) C dL_law__1195 rfl rfl ?_
  refine g_iconst (n := 1198) (v := 1) C dL_law__1197 rfl (by decide) ?_
  refine g_iadd (n := 1199) C dL_law__1198 rfl ?_
  refine g_sld (n := 1200) C S dL_law__1199 rfl (s_in 1 hL hi (by decide)) ?_
  refine g_aload_n (n := 1201) C dL_law__1200 rfl rfl ?_
  refine g_iload (n := 1203) C dL_law__1201 rfl rfl ?_
  refine g_iconst (n := 1204) (v := 2) C dL_law__1203 rfl (by decide) ?_
  refine g_iadd (n := 1205) C dL_law__1204 rfl ?_
  refine g_sld (n := 1206) C S dL_law__1205 rfl (s_in 2 hL hi (by decide)) ?_
  refine g_aload_n (n := 1207) C dL_law__1206 rfl rfl ?_
  refine g_iload (n := 1209) C dL_law__1207 rfl rfl ?_
  refine g_iconst (n := 1210) (v := 3) C dL_law__1209 rfl (by decide) ?_
  refine g_iadd (n := 1211) C dL_law__1210 rfl ?_
  refine g_sld (n := 1212) C S dL_law__1211 rfl (s_in 3 hL hi (by decide)) ?_
  refine g_if_eq (n := 1215) (t := 1219) C dL_law__1212 rfl (by decide) (fun zcs => ?_) (fun zcs => ?_)
  · --s0
    refine g_iconst (n := 1220) (v := 0) C dL_law__1219 rfl (by decide) ?_
    refine g_aload_n (n := 1221) C dL_law__1220 rfl rfl ?_
    obtain ⟨k, v, F9, A9, n9, m9, hk, hM, hr⟩ := oc_flaw (a := (xs (nI i + 1).toNatClampNeg)) (b := (xs (nI i + 2).toNatClampNeg)) (v9 := 0) I (Or.inl rfl) hl9
    refine g_callSW (n := 1224) (As := [.ref x, .int (xs (nI i + 1).toNatClampNeg), .int (xs (nI i + 2).toNatClampNeg), .int 0, .ref ou]) C dL_law__1221 rfl mw_L_flaw w_1078 rfl rfl (lroom hK (by omega) (by omega) ⟨by decide, by decide, by decide, by decide, Nat.le_of_ble_eq_true rfl⟩) (lw_flaw I hM (fun h1 w9 => ?_))
    refine g_istore (n := 1226) C dL_law__1224 rfl (by decide) ?_
    refine g_aload_n (n := 1227) C dL_law__1226 rfl rfl ?_
    refine g_aload_n (n := 1228) C dL_law__1227 rfl rfl ?_
    refine g_iload (n := 1230) C dL_law__1228 rfl rfl ?_
    refine g_iconst (n := 1231) (v := 1) C dL_law__1230 rfl (by decide) ?_
    refine g_iadd (n := 1232) C dL_law__1231 rfl ?_
    refine g_sld (n := 1233) C S dL_law__1232 rfl (s_in 1 hL hi (by decide)) ?_
    refine g_aload_n (n := 1234) C dL_law__1233 rfl rfl ?_
    refine g_iload (n := 1236) C dL_law__1234 rfl rfl ?_
    refine g_iconst (n := 1237) (v := 2) C dL_law__1236 rfl (by decide) ?_
    refine g_iadd (n := 1238) C dL_law__1237 rfl ?_
    refine g_sld (n := 1239) C S dL_law__1238 rfl (s_in 2 hL hi (by decide)) ?_
    refine g_aload_n (n := 1240) C dL_law__1239 rfl rfl ?_
    refine g_iload (n := 1242) C dL_law__1240 rfl rfl ?_
    refine g_iconst (n := 1243) (v := 3) C dL_law__1242 rfl (by decide) ?_
    refine g_iadd (n := 1244) C dL_law__1243 rfl ?_
    refine g_sld (n := 1245) C S dL_law__1244 rfl (s_in 3 hL hi (by decide)) ?_
    refine g_if_eq (n := 1248) (t := 1252) C dL_law__1245 rfl (by decide) (fun _ => ?_) (fun zc => absurd zcs zc)
    refine g_iconst (n := 1253) (v := 0) C dL_law__1252 rfl (by decide) ?_
    obtain ⟨adm, e9, hI9, hw9⟩ := w9.mh
    rw [e9]
    refine g_callV (n := 1256) (As := [.int (xs (nI i + 1).toNatClampNeg), .int (xs (nI i + 2).toNatClampNeg), .int 0]) C dL_law__1253 rfl mw_X11_flaw w_1367 (g_recv C mh_o rfl) rfl rfl (lroom hK (by omega) (by omega) ⟨by decide, by decide, by decide, by decide, Nat.le_of_ble_eq_true rfl⟩) (hr adm h1 _ hI9 ?_)
    have w8 := hw9 F9 A9
    refine g_istore (n := 1258) C dL_law__1256 rfl (by decide) ?_
    refine g_aload_n (n := 1259) C dL_law__1258 rfl rfl ?_
    refine g_callV (n := 1262) (As := []) C dL_law__1259 rfl mw_X11_thrown w_1194 (g_recv C mh_o rfl) rfl rfl (lroom hK (by omega) (by omega) ⟨by decide, by decide, by decide, by decide, Nat.le_of_ble_eq_true rfl⟩) (ct_thrown ?_)
    rw [hk]
    refine g_iload (n := 1264) C dL_law__1262 rfl rfl ?_
    refine g_icmp_eq (n := 1267) (t := 1269) C dL_law__1264 rfl (by decide) (fun _ => ?_) (fun zc => absurd rfl zc)
    refine g_iload (n := 1271) C dL_law__1269 rfl rfl ?_
    refine g_if_ne (n := 1274) (t := 1293) C dL_law__1271 rfl (by decide) (fun zck => ?_) (fun zck => ?_)
    · --k
      refine g_goto (t := 1347) C dL_law__1293 (by decide) ?_
      exact g_lv [0, 1, 2, 3, 4] rfl (g_wide (by omega) (by omega) (kn _ _ _ _ _ w8.wi))
    · --k0
      refine g_aload_n (n := 1275) C dL_law__1274 rfl rfl ?_
      refine g_iconst (n := 1276) (v := 0) C dL_law__1275 rfl (by decide) ?_
      obtain ⟨O9, ho9, hp9⟩ := w8.row
      refine g_lald (n := 1277) C dL_law__1276 rfl ho9 (by unfold vp_in; decide) ?_
      rw [show O9 (Int32.toNatClampNeg 0) = _ from hp9 zck]
      refine g_iload (n := 1279) C dL_law__1277 rfl rfl ?_
      refine g_if_eq (n := 1282) (t := 1286) C dL_law__1279 rfl (by decide) (fun zcv => ?_) (fun zcv => ?_)
      · --v0
        refine g_lconst (n := 1287) (v := 0) C dL_law__1286 rfl (by decide) ?_
        rw [if_pos zcv]
        refine g_lcmp (n := 1288) C dL_law__1287 rfl ?_
        rw [lg_same]
        refine g_if_eq (n := 1291) (t := 1293) C dL_law__1288 rfl (by decide) (fun _ => ?_) (fun zc => absurd rfl zc)
        refine g_goto (t := 1347) C dL_law__1293 (by decide) ?_
        exact g_lv [0, 1, 2, 3, 4] rfl (g_wide (by omega) (by omega) (kn _ _ _ _ _ w8.wi))
      · --v1
        refine g_lconst (n := 1283) (v := 1) C dL_law__1282 rfl (by decide) ?_
        refine g_goto (t := 1287) C dL_law__1283 (by decide) ?_
        rw [if_neg zcv]
        refine g_lcmp (n := 1288) C dL_law__1287 rfl ?_
        rw [lg_same]
        refine g_if_eq (n := 1291) (t := 1293) C dL_law__1288 rfl (by decide) (fun _ => ?_) (fun zc => absurd rfl zc)
        refine g_goto (t := 1347) C dL_law__1293 (by decide) ?_
        exact g_lv [0, 1, 2, 3, 4] rfl (g_wide (by omega) (by omega) (kn _ _ _ _ _ w8.wi))
  · --s1
    refine g_iconst (n := 1216) (v := 1) C dL_law__1215 rfl (by decide) ?_
    refine g_goto (t := 1220) C dL_law__1216 (by decide) ?_
    refine g_aload_n (n := 1221) C dL_law__1220 rfl rfl ?_
    obtain ⟨k, v, F9, A9, n9, m9, hk, hM, hr⟩ := oc_flaw (a := (xs (nI i + 1).toNatClampNeg)) (b := (xs (nI i + 2).toNatClampNeg)) (v9 := 1) I (Or.inr rfl) hl9
    refine g_callSW (n := 1224) (As := [.ref x, .int (xs (nI i + 1).toNatClampNeg), .int (xs (nI i + 2).toNatClampNeg), .int 1, .ref ou]) C dL_law__1221 rfl mw_L_flaw w_1078 rfl rfl (lroom hK (by omega) (by omega) ⟨by decide, by decide, by decide, by decide, Nat.le_of_ble_eq_true rfl⟩) (lw_flaw I hM (fun h1 w9 => ?_))
    refine g_istore (n := 1226) C dL_law__1224 rfl (by decide) ?_
    refine g_aload_n (n := 1227) C dL_law__1226 rfl rfl ?_
    refine g_aload_n (n := 1228) C dL_law__1227 rfl rfl ?_
    refine g_iload (n := 1230) C dL_law__1228 rfl rfl ?_
    refine g_iconst (n := 1231) (v := 1) C dL_law__1230 rfl (by decide) ?_
    refine g_iadd (n := 1232) C dL_law__1231 rfl ?_
    refine g_sld (n := 1233) C S dL_law__1232 rfl (s_in 1 hL hi (by decide)) ?_
    refine g_aload_n (n := 1234) C dL_law__1233 rfl rfl ?_
    refine g_iload (n := 1236) C dL_law__1234 rfl rfl ?_
    refine g_iconst (n := 1237) (v := 2) C dL_law__1236 rfl (by decide) ?_
    refine g_iadd (n := 1238) C dL_law__1237 rfl ?_
    refine g_sld (n := 1239) C S dL_law__1238 rfl (s_in 2 hL hi (by decide)) ?_
    refine g_aload_n (n := 1240) C dL_law__1239 rfl rfl ?_
    refine g_iload (n := 1242) C dL_law__1240 rfl rfl ?_
    refine g_iconst (n := 1243) (v := 3) C dL_law__1242 rfl (by decide) ?_
    refine g_iadd (n := 1244) C dL_law__1243 rfl ?_
    refine g_sld (n := 1245) C S dL_law__1244 rfl (s_in 3 hL hi (by decide)) ?_
    refine g_if_eq (n := 1248) (t := 1252) C dL_law__1245 rfl (by decide) (fun zc => absurd zc zcs) (fun _ => ?_)
    refine g_iconst (n := 1249) (v := 1) C dL_law__1248 rfl (by decide) ?_
    refine g_goto (t := 1253) C dL_law__1249 (by decide) ?_
    obtain ⟨adm, e9, hI9, hw9⟩ := w9.mh
    rw [e9]
    refine g_callV (n := 1256) (As := [.int (xs (nI i + 1).toNatClampNeg), .int (xs (nI i + 2).toNatClampNeg), .int 1]) C dL_law__1253 rfl mw_X11_flaw w_1367 (g_recv C mh_o rfl) rfl rfl (lroom hK (by omega) (by omega) ⟨by decide, by decide, by decide, by decide, Nat.le_of_ble_eq_true rfl⟩) (hr adm h1 _ hI9 ?_)
    have w8 := hw9 F9 A9
    refine g_istore (n := 1258) C dL_law__1256 rfl (by decide) ?_
    refine g_aload_n (n := 1259) C dL_law__1258 rfl rfl ?_
    refine g_callV (n := 1262) (As := []) C dL_law__1259 rfl mw_X11_thrown w_1194 (g_recv C mh_o rfl) rfl rfl (lroom hK (by omega) (by omega) ⟨by decide, by decide, by decide, by decide, Nat.le_of_ble_eq_true rfl⟩) (ct_thrown ?_)
    rw [hk]
    refine g_iload (n := 1264) C dL_law__1262 rfl rfl ?_
    refine g_icmp_eq (n := 1267) (t := 1269) C dL_law__1264 rfl (by decide) (fun _ => ?_) (fun zc => absurd rfl zc)
    refine g_iload (n := 1271) C dL_law__1269 rfl rfl ?_
    refine g_if_ne (n := 1274) (t := 1293) C dL_law__1271 rfl (by decide) (fun zck => ?_) (fun zck => ?_)
    · --k
      refine g_goto (t := 1347) C dL_law__1293 (by decide) ?_
      exact g_lv [0, 1, 2, 3, 4] rfl (g_wide (by omega) (by omega) (kn _ _ _ _ _ w8.wi))
    · --k0
      refine g_aload_n (n := 1275) C dL_law__1274 rfl rfl ?_
      refine g_iconst (n := 1276) (v := 0) C dL_law__1275 rfl (by decide) ?_
      obtain ⟨O9, ho9, hp9⟩ := w8.row
      refine g_lald (n := 1277) C dL_law__1276 rfl ho9 (by unfold vp_in; decide) ?_
      rw [show O9 (Int32.toNatClampNeg 0) = _ from hp9 zck]
      refine g_iload (n := 1279) C dL_law__1277 rfl rfl ?_
      refine g_if_eq (n := 1282) (t := 1286) C dL_law__1279 rfl (by decide) (fun zcv => ?_) (fun zcv => ?_)
      · --v0
        refine g_lconst (n := 1287) (v := 0) C dL_law__1286 rfl (by decide) ?_
        rw [if_pos zcv]
        refine g_lcmp (n := 1288) C dL_law__1287 rfl ?_
        rw [lg_same]
        refine g_if_eq (n := 1291) (t := 1293) C dL_law__1288 rfl (by decide) (fun _ => ?_) (fun zc => absurd rfl zc)
        refine g_goto (t := 1347) C dL_law__1293 (by decide) ?_
        exact g_lv [0, 1, 2, 3, 4] rfl (g_wide (by omega) (by omega) (kn _ _ _ _ _ w8.wi))
      · --v1
        refine g_lconst (n := 1283) (v := 1) C dL_law__1282 rfl (by decide) ?_
        refine g_goto (t := 1287) C dL_law__1283 (by decide) ?_
        rw [if_neg zcv]
        refine g_lcmp (n := 1288) C dL_law__1287 rfl ?_
        rw [lg_same]
        refine g_if_eq (n := 1291) (t := 1293) C dL_law__1288 rfl (by decide) (fun _ => ?_) (fun zc => absurd rfl zc)
        refine g_goto (t := 1347) C dL_law__1293 (by decide) ?_
        exact g_lv [0, 1, 2, 3, 4] rfl (g_wide (by omega) (by omega) (kn _ _ _ _ _ w8.wi))
theorem dL_law__1296 : decode cL_law_ 1296 = .ok (.aload_n 1, 1) := by decide +kernel
theorem dL_law__1297 : decode cL_law_ 1297 = .ok (.invokevirtual 159, 3) := by decide +kernel
theorem dL_law__1300 : decode cL_law_ 1300 = .ok (.aload_n 2, 1) := by decide +kernel
theorem dL_law__1301 : decode cL_law_ 1301 = .ok (.invokevirtual 162, 3) := by decide +kernel
theorem dL_law__1304 : decode cL_law_ 1304 = .ok (.if_icmp .eq 43, 3) := by decide +kernel
set_option maxHeartbeats 2000000 in
set_option maxRecDepth 20000 in
theorem sg_most {K : Cx} {E : Ev} {nm : String} {Q : State → Prop} {cs ss sa x o ou i L n m : Nat} {xs : Nat → Int32} {F : Nat → Int32} {A : Nat → Nat → Int32} {h : AH} (C : GX K E cL_law_ 7 RL (some .boolean) nm) (hK : kR K = room_1) (hl9 : (kl K).stackTraces = false) (S : SX K E sa L xs) (hL : L ≤ 3072) (hi : i + 6 ≤ L) (hc : cs + 100 ≤ 601024) (hs : ss + 20000 ≤ 7293034) (I : WI E x o ou F A n m F A h) (kn : ∀ F9 A9 n9 m9 h9, WI E x o ou F9 A9 n9 m9 F9 A9 h9 → G K E 7 Q (cs + 8) (ss + 200) 1347 [(0, .ref sa), (1, .ref x), (2, .ref o), (3, .ref ou), (4, .int (nI i))] [] h9) : G K E 7 Q cs ss 1296 [(0, .ref sa), (1, .ref x), (2, .ref o), (3, .ref ou), (4, .int (nI i))] [] h := by
  refine g_aload_n (n := 1297) C dL_law__1296 rfl rfl ?_
  obtain ⟨v, F9, A9, KP, hkp, hM, hr⟩ := oc_most  I
  obtain ⟨vs9, hx9⟩ := I.obj
  refine g_callV (n := 1300) (As := []) C dL_law__1297 rfl mw_X10_most w_326 (g_recv C hx9 rfl) rfl rfl (lroom hK (by omega) (by omega) ⟨by decide, by decide, by decide, by decide, Nat.le_of_ble_eq_true rfl⟩) (hM.mono (fun v1 h1 q9 => ?_))
  obtain ⟨rfl, w9⟩ := q9
  have w9 := w9.wo
  refine g_aload_n (n := 1301) C dL_law__1300 rfl rfl ?_
  obtain ⟨adm, e9, hI9, hw9⟩ := w9.mh
  rw [e9]
  refine g_callV (n := 1304) (As := []) C dL_law__1301 rfl mw_X11_most w_1371 (g_recv C mh_o rfl) rfl rfl (lroom hK (by omega) (by omega) ⟨by decide, by decide, by decide, by decide, Nat.le_of_ble_eq_true rfl⟩) (hr adm h1 _ hI9 (fun B hB => ?_))
  have w8 := (hw9 F9 B).wi.keep (hkp B hB)
  refine g_icmp_eq (n := 1307) (t := 1347) C dL_law__1304 rfl (by decide) (fun _ => ?_) (fun zc => absurd rfl zc)
  exact g_lv [0, 1, 2, 3, 4] rfl (g_wide (by omega) (by omega) (kn _ _ _ _ _ w8))
theorem dL_law__1309 : decode cL_law_ 1309 = .ok (.aload_n 1, 1) := by decide +kernel
theorem dL_law__1310 : decode cL_law_ 1310 = .ok (.invokevirtual 163, 3) := by decide +kernel
theorem dL_law__1313 : decode cL_law_ 1313 = .ok (.aload_n 2, 1) := by decide +kernel
theorem dL_law__1314 : decode cL_law_ 1314 = .ok (.invokevirtual 166, 3) := by decide +kernel
theorem dL_law__1317 : decode cL_law_ 1317 = .ok (.if_icmp .eq 30, 3) := by decide +kernel
set_option maxHeartbeats 2000000 in
set_option maxRecDepth 20000 in
theorem sg_cuts {K : Cx} {E : Ev} {nm : String} {Q : State → Prop} {cs ss sa x o ou i L n m : Nat} {xs : Nat → Int32} {F : Nat → Int32} {A : Nat → Nat → Int32} {h : AH} (C : GX K E cL_law_ 7 RL (some .boolean) nm) (hK : kR K = room_1) (hl9 : (kl K).stackTraces = false) (S : SX K E sa L xs) (hL : L ≤ 3072) (hi : i + 6 ≤ L) (hc : cs + 100 ≤ 601024) (hs : ss + 20000 ≤ 7293034) (I : WI E x o ou F A n m F A h) (kn : ∀ F9 A9 n9 m9 h9, WI E x o ou F9 A9 n9 m9 F9 A9 h9 → G K E 7 Q (cs + 8) (ss + 200) 1347 [(0, .ref sa), (1, .ref x), (2, .ref o), (3, .ref ou), (4, .int (nI i))] [] h9) : G K E 7 Q cs ss 1309 [(0, .ref sa), (1, .ref x), (2, .ref o), (3, .ref ou), (4, .int (nI i))] [] h := by
  refine g_aload_n (n := 1310) C dL_law__1309 rfl rfl ?_
  obtain ⟨v, F9, A9, KP, hkp, hM, hr⟩ := oc_cuts  I
  obtain ⟨vs9, hx9⟩ := I.obj
  refine g_callV (n := 1313) (As := []) C dL_law__1310 rfl mw_X10_cuts w_356 (g_recv C hx9 rfl) rfl rfl (lroom hK (by omega) (by omega) ⟨by decide, by decide, by decide, by decide, Nat.le_of_ble_eq_true rfl⟩) (hM.mono (fun v1 h1 q9 => ?_))
  obtain ⟨rfl, w9⟩ := q9
  have w9 := w9.wo
  refine g_aload_n (n := 1314) C dL_law__1313 rfl rfl ?_
  obtain ⟨adm, e9, hI9, hw9⟩ := w9.mh
  rw [e9]
  refine g_callV (n := 1317) (As := []) C dL_law__1314 rfl mw_X11_cuts w_1390 (g_recv C mh_o rfl) rfl rfl (lroom hK (by omega) (by omega) ⟨by decide, by decide, by decide, by decide, Nat.le_of_ble_eq_true rfl⟩) (hr adm h1 _ hI9 (fun B hB => ?_))
  have w8 := (hw9 F9 B).wi.keep (hkp B hB)
  refine g_icmp_eq (n := 1320) (t := 1347) C dL_law__1317 rfl (by decide) (fun _ => ?_) (fun zc => absurd rfl zc)
  exact g_lv [0, 1, 2, 3, 4] rfl (g_wide (by omega) (by omega) (kn _ _ _ _ _ w8))
theorem dL_law__1322 : decode cL_law_ 1322 = .ok (.aload_n 1, 1) := by decide +kernel
theorem dL_law__1323 : decode cL_law_ 1323 = .ok (.aload_n 0, 1) := by decide +kernel
theorem dL_law__1324 : decode cL_law_ 1324 = .ok (.iload 4, 2) := by decide +kernel
theorem dL_law__1326 : decode cL_law_ 1326 = .ok (.iconst 1, 1) := by decide +kernel
theorem dL_law__1327 : decode cL_law_ 1327 = .ok (.iadd, 1) := by decide +kernel
theorem dL_law__1328 : decode cL_law_ 1328 = .ok (.iaload, 1) := by decide +kernel
theorem dL_law__1329 : decode cL_law_ 1329 = .ok (.invokevirtual 167, 3) := by decide +kernel
theorem dL_law__1332 : decode cL_law_ 1332 = .ok (.aload_n 2, 1) := by decide +kernel
theorem dL_law__1333 : decode cL_law_ 1333 = .ok (.aload_n 0, 1) := by decide +kernel
theorem dL_law__1334 : decode cL_law_ 1334 = .ok (.iload 4, 2) := by decide +kernel
theorem dL_law__1336 : decode cL_law_ 1336 = .ok (.iconst 1, 1) := by decide +kernel
theorem dL_law__1337 : decode cL_law_ 1337 = .ok (.iadd, 1) := by decide +kernel
theorem dL_law__1338 : decode cL_law_ 1338 = .ok (.iaload, 1) := by decide +kernel
theorem dL_law__1339 : decode cL_law_ 1339 = .ok (.invokevirtual 170, 3) := by decide +kernel
theorem dL_law__1342 : decode cL_law_ 1342 = .ok (.if_icmp .eq 5, 3) := by decide +kernel
set_option maxHeartbeats 2000000 in
set_option maxRecDepth 20000 in
theorem sg_count {K : Cx} {E : Ev} {nm : String} {Q : State → Prop} {cs ss sa x o ou i L n m : Nat} {xs : Nat → Int32} {F : Nat → Int32} {A : Nat → Nat → Int32} {h : AH} (C : GX K E cL_law_ 7 RL (some .boolean) nm) (hK : kR K = room_1) (hl9 : (kl K).stackTraces = false) (S : SX K E sa L xs) (hL : L ≤ 3072) (hi : i + 6 ≤ L) (hc : cs + 100 ≤ 601024) (hs : ss + 20000 ≤ 7293034) (I : WI E x o ou F A n m F A h) (kn : ∀ F9 A9 n9 m9 h9, WI E x o ou F9 A9 n9 m9 F9 A9 h9 → G K E 7 Q (cs + 8) (ss + 200) 1347 [(0, .ref sa), (1, .ref x), (2, .ref o), (3, .ref ou), (4, .int (nI i))] [] h9) : G K E 7 Q cs ss 1322 [(0, .ref sa), (1, .ref x), (2, .ref o), (3, .ref ou), (4, .int (nI i))] [] h := by
  refine g_aload_n (n := 1323) C dL_law__1322 rfl rfl ?_
  refine g_aload_n (n := 1324) C dL_law__1323 rfl rfl ?_
  refine g_iload (n := 1326) C dL_law__1324 rfl rfl ?_
  refine g_iconst (n := 1327) (v := 1) C dL_law__1326 rfl (by decide) ?_
  refine g_iadd (n := 1328) C dL_law__1327 rfl ?_
  refine g_sld (n := 1329) C S dL_law__1328 rfl (s_in 1 hL hi (by decide)) ?_
  obtain ⟨v, F9, A9, KP, hkp, hM, hr⟩ := oc_count (w := (xs (nI i + 1).toNatClampNeg)) I
  obtain ⟨vs9, hx9⟩ := I.obj
  refine g_callV (n := 1332) (As := [.int (xs (nI i + 1).toNatClampNeg)]) C dL_law__1329 rfl mw_X10_count w_364 (g_recv C hx9 rfl) rfl rfl (lroom hK (by omega) (by omega) ⟨by decide, by decide, by decide, by decide, Nat.le_of_ble_eq_true rfl⟩) (hM.mono (fun v1 h1 q9 => ?_))
  obtain ⟨rfl, w9⟩ := q9
  have w9 := w9.wo
  refine g_aload_n (n := 1333) C dL_law__1332 rfl rfl ?_
  refine g_aload_n (n := 1334) C dL_law__1333 rfl rfl ?_
  refine g_iload (n := 1336) C dL_law__1334 rfl rfl ?_
  refine g_iconst (n := 1337) (v := 1) C dL_law__1336 rfl (by decide) ?_
  refine g_iadd (n := 1338) C dL_law__1337 rfl ?_
  refine g_sld (n := 1339) C S dL_law__1338 rfl (s_in 1 hL hi (by decide)) ?_
  obtain ⟨adm, e9, hI9, hw9⟩ := w9.mh
  rw [e9]
  refine g_callV (n := 1342) (As := [.int (xs (nI i + 1).toNatClampNeg)]) C dL_law__1339 rfl mw_X11_count w_1394 (g_recv C mh_o rfl) rfl rfl (lroom hK (by omega) (by omega) ⟨by decide, by decide, by decide, by decide, Nat.le_of_ble_eq_true rfl⟩) (hr adm h1 _ hI9 (fun B hB => ?_))
  have w8 := (hw9 F9 B).wi.keep (hkp B hB)
  refine g_icmp_eq (n := 1345) (t := 1347) C dL_law__1342 rfl (by decide) (fun _ => ?_) (fun zc => absurd rfl zc)
  exact g_lv [0, 1, 2, 3, 4] rfl (g_wide (by omega) (by omega) (kn _ _ _ _ _ w8))
