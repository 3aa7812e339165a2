section FROWS
variable {K : Cx} {E : Ev} {cc : ByteArray} {nL : Nat} {own : String} {ret : Option FieldType} {nm : String} {Q : State → Prop} {cs ss pc : Nat} {lv : List (Nat × Value)} {st : List Value} {h : AH}
theorem f_iald {n a N : Nat} {f : Nat → Int32} {x v : Int32} (j : Nat) (C : GX K E cc nL own ret nm) (hd : decode cc pc = .ok (.iaload, 1)) (hn : pc + 1 = n) (he : h a = some (.inl (E.2.2 1, N, .inl f))) (hx : x = nI j) (hj : j < N) (hN : N < 2147483648) (hv : f j = v) (k : G K E nL Q cs ss n lv (.int v :: st) h) : G K E nL Q cs ss pc lv (.int x :: .ref a :: st) h := by
  subst hx
  refine g_iald C hd hn he (vp_in_nI hj hN) ?_
  rw [nI_clamp (by omega), hv]
  exact k
theorem f_bald {n a N : Nat} {f : Nat → Int32} {x v : Int32} (j : Nat) (C : GX K E cc nL own ret nm) (hd : decode cc pc = .ok (.baload, 1)) (hn : pc + 1 = n) (he : h a = some (.inl (E.2.2 0, N, .inl f))) (hx : x = nI j) (hj : j < N) (hN : N < 2147483648) (hv : f j = v) (k : G K E nL Q cs ss n lv (.int v :: st) h) : G K E nL Q cs ss pc lv (.int x :: .ref a :: st) h := by
  subst hx
  refine g_bald C hd hn he (vp_in_nI hj hN) ?_
  rw [nI_clamp (by omega), hv]
  exact k
theorem f_zald {n a N : Nat} {f : Nat → Int32} {x v : Int32} (j : Nat) (C : GX K E cc nL own ret nm) (hd : decode cc pc = .ok (.baload, 1)) (hn : pc + 1 = n) (he : h a = some (.inl (E.2.2 2, N, .inl f))) (hx : x = nI j) (hj : j < N) (hN : N < 2147483648) (hv : f j = v) (k : G K E nL Q cs ss n lv (.int v :: st) h) : G K E nL Q cs ss pc lv (.int x :: .ref a :: st) h := by
  subst hx
  refine g_zald C hd hn he (vp_in_nI hj hN) ?_
  rw [nI_clamp (by omega), hv]
  exact k
theorem f_aald {n a N b : Nat} {f : Nat → Option Nat} {x : Int32} (j : Nat) (C : GX K E cc nL own ret nm) (hd : decode cc pc = .ok (.aaload, 1)) (hn : pc + 1 = n) (he : h a = some (eQ E N f)) (hx : x = nI j) (hj : j < N) (hN : N < 2147483648) (hv : f j = some b) (k : G K E nL Q cs ss n lv (.ref b :: st) h) : G K E nL Q cs ss pc lv (.int x :: .ref a :: st) h := by
  subst hx
  exact g_aald C hd hn he (vp_in_nI hj hN) (by rw [nI_clamp (by omega)]; exact hv) k
end FROWS
theorem lA_one (a : Nat) (e : va_E) : lA [(a, e)] := List.pairwise_singleton _ _
theorem dJxa1e45_init_da8c8_0 : decode cJxa1e45_init_da8c8 0 = .ok (.aload_n 0, 1) := by decide +kernel
theorem dJxa1e45_init_da8c8_1 : decode cJxa1e45_init_da8c8 1 = .ok (.invokespecial 1, 3) := by decide +kernel
theorem dJxa1e45_init_da8c8_4 : decode cJxa1e45_init_da8c8 4 = .ok (.return_, 1) := by decide +kernel
set_option maxHeartbeats 400000 in
set_option maxRecDepth 20000 in
theorem ct_acInit {l : Launch} {E : Ev} {P : Value → AH → Prop}  {a : Nat} {h : AH} (hp : P .null h) : Mt l E yJxa1e45_init_da8c8 cJxa1e45_init_da8c8 1 none 1 20 0 0 [.ref a] (h) P := by
  refine Mt.of (by decide) (Nat.le_of_ble_eq_true rfl) ?_
  intro K hK hR C
  refine g_aload_n (n := 1) C dJxa1e45_init_da8c8_0 rfl rfl ?_
  refine g_objInit (n := 4) C dJxa1e45_init_da8c8_1 rfl w_105 w_72 w_73 (roomF hR rfl) (roomL hR rfl) ?_
  refine g_vret C dJxa1e45_init_da8c8_4 (by decide) (by decide) ?_
  exact hp
theorem dJxc12de_init_da8c8_0 : decode cJxc12de_init_da8c8 0 = .ok (.aload_n 0, 1) := by decide +kernel
theorem dJxc12de_init_da8c8_1 : decode cJxc12de_init_da8c8 1 = .ok (.invokespecial 1, 3) := by decide +kernel
theorem dJxc12de_init_da8c8_4 : decode cJxc12de_init_da8c8 4 = .ok (.aload_n 0, 1) := by decide +kernel
theorem dJxc12de_init_da8c8_5 : decode cJxc12de_init_da8c8 5 = .ok (.iconst 0, 1) := by decide +kernel
theorem dJxc12de_init_da8c8_6 : decode cJxc12de_init_da8c8 6 = .ok (.putfield 7, 3) := by decide +kernel
theorem dJxc12de_init_da8c8_9 : decode cJxc12de_init_da8c8 9 = .ok (.return_, 1) := by decide +kernel
set_option maxHeartbeats 400000 in
set_option maxRecDepth 20000 in
theorem ct_alInit0 {l : Launch} {E : Ev} {P : Value → AH → Prop}  {a : Nat} {h : AH} (hp : P .null (LW [(a, .inr (0, [.int 0, .null, .int 0]))] h)) : Mt l E yJxc12de_init_da8c8 cJxc12de_init_da8c8 1 none 2 40 0 0 [.ref a] (LW [(a, .inr (0, [.int 0, .null, .int 0]))] h) P := by
  refine Mt.of (by decide) (Nat.le_of_ble_eq_true rfl) ?_
  intro K hK hR C
  have A0 : lA [(a, (.inr (0, [.int 0, .null, .int 0]) : va_E))] := lA_one _ _
  refine g_aload_n (n := 1) C dJxc12de_init_da8c8_0 rfl rfl ?_
  refine g_callI (n := 4) (As := []) C dJxc12de_init_da8c8_1 rfl mw_Jxa1e45_init_da8c8 w_102 rfl rfl (room hR rfl) (ct_acInit ?_)
  refine g_aload_n (n := 5) C dJxc12de_init_da8c8_4 rfl rfl ?_
  refine g_iconst (n := 6) (v := 0) C dJxc12de_init_da8c8_5 rfl (by decide) ?_
  refine l_put (n := 9) (T := TJx4a65c) (ty0 := tyJx4a65c) C 0 0 dJxc12de_init_da8c8_6 rfl A0 rfl rfl (by decide) inJx4a65c w_110 rfl tyJx4a65c_ok nmJx4a65c rfl rfl rfl rfl (by show 0 < 3; decide) ?_
  dsimp only [List.set]
  refine g_vret C dJxc12de_init_da8c8_9 (by decide) (by decide) ?_
  exact hp
theorem dJx4a65c_init_da8c8_0 : decode cJx4a65c_init_da8c8 0 = .ok (.aload_n 0, 1) := by decide +kernel
theorem dJx4a65c_init_da8c8_1 : decode cJx4a65c_init_da8c8 1 = .ok (.invokespecial 1, 3) := by decide +kernel
theorem dJx4a65c_init_da8c8_4 : decode cJx4a65c_init_da8c8 4 = .ok (.aload_n 0, 1) := by decide +kernel
theorem dJx4a65c_init_da8c8_5 : decode cJx4a65c_init_da8c8 5 = .ok (.getstatic 39, 3) := by decide +kernel
theorem dJx4a65c_init_da8c8_8 : decode cJx4a65c_init_da8c8 8 = .ok (.putfield 9, 3) := by decide +kernel
theorem dJx4a65c_init_da8c8_11 : decode cJx4a65c_init_da8c8 11 = .ok (.return_, 1) := by decide +kernel
set_option maxHeartbeats 400000 in
set_option maxRecDepth 20000 in
theorem ct_alInit {l : Launch} {E : Ev} {P : Value → AH → Prop}  {a : Nat} {h : AH} (hp : P .null (LW [(a, .inr (0, [.int 0, .ref (E.2.2 10), .int 0]))] h)) : Mt l E yJx4a65c_init_da8c8 cJx4a65c_init_da8c8 1 none 3 60 0 0 [.ref a] (LW [(a, .inr (0, [.int 0, .null, .int 0]))] h) P := by
  refine Mt.of (by decide) (Nat.le_of_ble_eq_true rfl) ?_
  intro K hK hR C
  have A0 : lA [(a, (.inr (0, [.int 0, .null, .int 0]) : va_E))] := lA_one _ _
  refine g_aload_n (n := 1) C dJx4a65c_init_da8c8_0 rfl rfl ?_
  refine g_callI (n := 4) (As := []) C dJx4a65c_init_da8c8_1 rfl mw_Jxc12de_init_da8c8 w_99 rfl rfl (room hR rfl) (ct_alInit0 ?_)
  refine g_aload_n (n := 5) C dJx4a65c_init_da8c8_4 rfl rfl ?_
  refine g_dflt (n := 8) C dJx4a65c_init_da8c8_5 rfl w_106 ?_
  refine l_put (n := 11) (T := TJx4a65c) (ty0 := tyJx4a65c) C 0 1 dJx4a65c_init_da8c8_8 rfl A0 rfl rfl (by decide) inJx4a65c w_108 rfl tyJx4a65c_ok nmJx4a65c rfl rfl rfl rfl (by show 1 < 3; decide) ?_
  dsimp only [List.set]
  refine g_vret C dJx4a65c_init_da8c8_11 (by decide) (by decide) ?_
  exact hp
theorem dJx4a65c_size_8abf5_0 : decode cJx4a65c_size_8abf5 0 = .ok (.aload_n 0, 1) := by decide +kernel
theorem dJx4a65c_size_8abf5_1 : decode cJx4a65c_size_8abf5 1 = .ok (.getfield 48, 3) := by decide +kernel
theorem dJx4a65c_size_8abf5_4 : decode cJx4a65c_size_8abf5 4 = .ok (.ireturn, 1) := by decide +kernel
set_option maxHeartbeats 400000 in
set_option maxRecDepth 20000 in
theorem ct_alSize {l : Launch} {E : Ev} {P : Value → AH → Prop}  {a d : Nat} {mc : Int32} {n : Nat} {h : AH} (he : h a = some (.inr (0, [.int mc, .ref d, .int (nI n)]))) (hp : P (.int (nI n)) h) : Mt l E yJx4a65c_size_8abf5 cJx4a65c_size_8abf5 1 (some .int) 0 0 0 0 [.ref a] (h) P := by
  refine Mt.of (by decide) (Nat.le_of_ble_eq_true rfl) ?_
  intro K hK hR C
  refine g_aload_n (n := 1) C dJx4a65c_size_8abf5_0 rfl rfl ?_
  refine g_get (n := 4) (T := TJx4a65c) C 2 dJx4a65c_size_8abf5_1 rfl he rfl rfl (by decide) inJx4a65c w_109 rfl ?_
  refine g_iret C dJx4a65c_size_8abf5_4 (by decide) (by decide) ?_
  exact hp
theorem dJx4a65c_elementData_915e3_0 : decode cJx4a65c_elementData_915e3 0 = .ok (.aload_n 0, 1) := by decide +kernel
theorem dJx4a65c_elementData_915e3_1 : decode cJx4a65c_elementData_915e3 1 = .ok (.getfield 9, 3) := by decide +kernel
theorem dJx4a65c_elementData_915e3_4 : decode cJx4a65c_elementData_915e3 4 = .ok (.iload_n 1, 1) := by decide +kernel
theorem dJx4a65c_elementData_915e3_5 : decode cJx4a65c_elementData_915e3 5 = .ok (.aaload, 1) := by decide +kernel
theorem dJx4a65c_elementData_915e3_6 : decode cJx4a65c_elementData_915e3 6 = .ok (.areturn, 1) := by decide +kernel
set_option maxHeartbeats 400000 in
set_option maxRecDepth 20000 in
theorem ct_alEl {l : Launch} {E : Ev} {P : Value → AH → Prop}  {a d : Nat} {mc : Int32} {n : Nat} {h : AH} (he : h a = some (.inr (0, [.int mc, .ref d, .int (nI n)]))) {N : Nat} {f : Nat → Option Nat} (hd : h d = some (eQ E N f)) {j b : Nat} (hj : j < n) (hnN : n ≤ N) (hN : N ≤ 100) (hf : f j = some b) (hp : P (.ref b) h) : Mt l E yJx4a65c_elementData_915e3 cJx4a65c_elementData_915e3 2 (some (.object "java/lang/Object")) 0 0 0 0 [.ref a, .int (nI j)] (h) P := by
  refine Mt.of (by decide) (Nat.le_of_ble_eq_true rfl) ?_
  intro K hK hR C
  refine g_aload_n (n := 1) C dJx4a65c_elementData_915e3_0 rfl rfl ?_
  refine g_get (n := 4) (T := TJx4a65c) C 1 dJx4a65c_elementData_915e3_1 rfl he rfl rfl (by decide) inJx4a65c w_108 rfl ?_
  refine g_iload_n (n := 5) C dJx4a65c_elementData_915e3_4 rfl rfl ?_
  refine f_aald (n := 6) (b := b) (j) C dJx4a65c_elementData_915e3_5 rfl hd rfl (by omega) (by omega) (hf) ?_
  refine g_aret C dJx4a65c_elementData_915e3_6 (by first | exact Or.inl ⟨_, rfl⟩ | exact Or.inr ⟨_, rfl⟩) (by decide) (by decide) ?_
  exact hp
theorem dJ15_checkIndex_7cf53_0 : decode cJ15_checkIndex_7cf53 0 = .ok (.iload_n 0, 1) := by decide +kernel
theorem dJ15_checkIndex_7cf53_1 : decode cJ15_checkIndex_7cf53 1 = .ok (.iload_n 1, 1) := by decide +kernel
theorem dJ15_checkIndex_7cf53_2 : decode cJ15_checkIndex_7cf53 2 = .ok (.aconst_null, 1) := by decide +kernel
theorem dJ15_checkIndex_7cf53_3 : decode cJ15_checkIndex_7cf53 3 = .ok (.invokestatic 105, 3) := by decide +kernel
theorem dJ15_checkIndex_7cf53_6 : decode cJ15_checkIndex_7cf53 6 = .ok (.ireturn, 1) := by decide +kernel
set_option maxHeartbeats 400000 in
set_option maxRecDepth 20000 in
theorem ct_oci {l : Launch} {E : Ev} {P : Value → AH → Prop}  {h : AH} {i N : Nat} (hi : i < N) (hN : N < 2147483648) (hp : P (.int (nI i)) h) : Mt l E yJ15_checkIndex_7cf53 cJ15_checkIndex_7cf53 2 (some .int) 1 22 0 0 [.int (nI i), .int (nI N)] (h) P := by
  refine Mt.of (by decide) (Nat.le_of_ble_eq_true rfl) ?_
  intro K hK hR C
  refine g_iload_n (n := 1) C dJ15_checkIndex_7cf53_0 rfl rfl ?_
  refine g_iload_n (n := 2) C dJ15_checkIndex_7cf53_1 rfl rfl ?_
  refine g_null (n := 3) C dJ15_checkIndex_7cf53_2 rfl ?_
  refine g_callS (n := 6) (As := [.int _, .int _, .null]) C dJ15_checkIndex_7cf53_3 rfl mw_J3_checkIndex_8e157 w_305 rfl rfl (room hR rfl) (ct_pci0 hi hN ?_)
  refine g_iret C dJ15_checkIndex_7cf53_6 (by decide) (by decide) ?_
  exact hp
theorem dJx4a65c_get_915e3_0 : decode cJx4a65c_get_915e3 0 = .ok (.iload_n 1, 1) := by decide +kernel
theorem dJx4a65c_get_915e3_1 : decode cJx4a65c_get_915e3 1 = .ok (.aload_n 0, 1) := by decide +kernel
theorem dJx4a65c_get_915e3_2 : decode cJx4a65c_get_915e3 2 = .ok (.getfield 48, 3) := by decide +kernel
theorem dJx4a65c_get_915e3_5 : decode cJx4a65c_get_915e3 5 = .ok (.invokestatic 118, 3) := by decide +kernel
theorem dJx4a65c_get_915e3_8 : decode cJx4a65c_get_915e3 8 = .ok (.pop, 1) := by decide +kernel
theorem dJx4a65c_get_915e3_9 : decode cJx4a65c_get_915e3 9 = .ok (.aload_n 0, 1) := by decide +kernel
theorem dJx4a65c_get_915e3_10 : decode cJx4a65c_get_915e3 10 = .ok (.iload_n 1, 1) := by decide +kernel
theorem dJx4a65c_get_915e3_11 : decode cJx4a65c_get_915e3 11 = .ok (.invokevirtual 123, 3) := by decide +kernel
theorem dJx4a65c_get_915e3_14 : decode cJx4a65c_get_915e3 14 = .ok (.areturn, 1) := by decide +kernel
set_option maxHeartbeats 400000 in
set_option maxRecDepth 20000 in
theorem ct_alGet {l : Launch} {E : Ev} {P : Value → AH → Prop}  {a d : Nat} {mc : Int32} {n : Nat} {h : AH} (he : h a = some (.inr (0, [.int mc, .ref d, .int (nI n)]))) {N : Nat} {f : Nat → Option Nat} (hd : h d = some (eQ E N f)) {j b : Nat} (hj : j < n) (hnN : n ≤ N) (hN : N ≤ 100) (hf : f j = some b) (hp : P (.ref b) h) : Mt l E yJx4a65c_get_915e3 cJx4a65c_get_915e3 2 (some (.object "java/lang/Object")) 2 43 0 0 [.ref a, .int (nI j)] (h) P := by
  refine Mt.of (by decide) (Nat.le_of_ble_eq_true rfl) ?_
  intro K hK hR C
  refine g_iload_n (n := 1) C dJx4a65c_get_915e3_0 rfl rfl ?_
  refine g_aload_n (n := 2) C dJx4a65c_get_915e3_1 rfl rfl ?_
  refine g_get (n := 5) (T := TJx4a65c) C 2 dJx4a65c_get_915e3_2 rfl he rfl rfl (by decide) inJx4a65c w_109 rfl ?_
  refine g_callS (n := 8) (As := [.int _, .int _]) C dJx4a65c_get_915e3_5 rfl mw_J15_checkIndex_7cf53 w_302 rfl rfl (room hR rfl) (ct_oci hj (by omega) ?_)
  refine g_pop (n := 9) C dJx4a65c_get_915e3_8 rfl rfl ?_
  refine g_aload_n (n := 10) C dJx4a65c_get_915e3_9 rfl rfl ?_
  refine g_iload_n (n := 11) C dJx4a65c_get_915e3_10 rfl rfl ?_
  refine g_callV (n := 14) (As := [.int _]) C dJx4a65c_get_915e3_11 rfl mw_Jx4a65c_elementData_915e3 w_308 (g_recv C he rfl) rfl rfl (room hR rfl) (ct_alEl he hd hj hnN hN hf ?_)
  refine g_aret C dJx4a65c_get_915e3_14 (by first | exact Or.inl ⟨_, rfl⟩ | exact Or.inr ⟨_, rfl⟩) (by decide) (by decide) ?_
  exact hp
