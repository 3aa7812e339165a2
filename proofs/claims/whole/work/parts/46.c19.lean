theorem dX3_copy_0 : decode cX3_copy 0 = .ok (.new 8, 3) := by decide +kernel
theorem dX3_copy_3 : decode cX3_copy 3 = .ok (.dup, 1) := by decide +kernel
theorem dX3_copy_4 : decode cX3_copy 4 = .ok (.invokespecial 19, 3) := by decide +kernel
theorem dX3_copy_7 : decode cX3_copy 7 = .ok (.astore_n 1, 1) := by decide +kernel
theorem dX3_copy_8 : decode cX3_copy 8 = .ok (.aload_n 1, 1) := by decide +kernel
theorem dX3_copy_9 : decode cX3_copy 9 = .ok (.aload_n 0, 1) := by decide +kernel
theorem dX3_copy_10 : decode cX3_copy 10 = .ok (.getfield 7, 3) := by decide +kernel
theorem dX3_copy_13 : decode cX3_copy 13 = .ok (.putfield 7, 3) := by decide +kernel
theorem dX3_copy_16 : decode cX3_copy 16 = .ok (.aload_n 1, 1) := by decide +kernel
theorem dX3_copy_17 : decode cX3_copy 17 = .ok (.aload_n 0, 1) := by decide +kernel
theorem dX3_copy_18 : decode cX3_copy 18 = .ok (.getfield 13, 3) := by decide +kernel
theorem dX3_copy_21 : decode cX3_copy 21 = .ok (.putfield 13, 3) := by decide +kernel
theorem dX3_copy_24 : decode cX3_copy 24 = .ok (.aload_n 1, 1) := by decide +kernel
theorem dX3_copy_25 : decode cX3_copy 25 = .ok (.aload_n 0, 1) := by decide +kernel
theorem dX3_copy_26 : decode cX3_copy 26 = .ok (.getfield 16, 3) := by decide +kernel
theorem dX3_copy_29 : decode cX3_copy 29 = .ok (.putfield 16, 3) := by decide +kernel
theorem dX3_copy_32 : decode cX3_copy 32 = .ok (.aload_n 1, 1) := by decide +kernel
theorem dX3_copy_33 : decode cX3_copy 33 = .ok (.areturn, 1) := by decide +kernel
set_option maxHeartbeats 400000 in
set_option maxRecDepth 20000 in
theorem cc_lawCopy {l : Launch} {E : Ev} {P : Value → AH → Prop}  {a : Nat} {ap fd bo : Int32} {h : AH} (ha : h a = some (.inr (3, [.int ap, .int fd, .int bo]))) (hp : ∀ q, h q = none → P (.ref q) (LW [(q, .inr (3, [.int ap, .int fd, .int bo]))] h)) : Mt l E yX3_copy cX3_copy 2 (some (.object "GemPits$Law")) 3 60 1 3 [.ref a] (h) P := by
  refine Mt.of (by decide) (Nat.le_of_ble_eq_true rfl) ?_
  intro K hK hR C
  refine g_new (n := 3) (ci := 3) (T := TX3) (fs := [.int 0, .int 0, .int 0]) (ty0 := tyX3) C dX3_copy_0 rfl rfl inX3 w_517 w_121 w_41 tyX3_ok (by decide) (roomC hR rfl) (roomS hR rfl) ?_
  intro q hqq heq
  rw [← LW_one]
  refine g_dup (n := 4) C dX3_copy_3 rfl rfl ?_
  refine g_callI (n := 7) (As := []) C dX3_copy_4 rfl mw_X3_init w_518 rfl rfl (room hR rfl) (cc_lawInit ?_)
  have A0 : lA [(q, (.inr (3, [.int 0, .int 1000, .int 0]) : va_E))] := lA_one _ _
  have haq : a ∉ [q] := fun z => by rw [List.mem_singleton.mp z, hqq] at ha; cases ha
  refine g_astore_n (n := 8) C dX3_copy_7 rfl (by decide) ?_
  refine g_aload_n (n := 9) C dX3_copy_8 rfl rfl ?_
  refine g_aload_n (n := 10) C dX3_copy_9 rfl rfl ?_
  refine b_get (n := 13) (T := TX3) 0 C dX3_copy_10 rfl ha haq rfl rfl (by decide) inX3 w_129 rfl ?_
  refine l_put (n := 16) (T := TX3) (ty0 := tyX3) C 0 0 dX3_copy_13 rfl A0 rfl rfl (by decide) inX3 w_129 rfl tyX3_ok nmX3 rfl rfl rfl rfl (by show 0 < 3; decide) ?_
  dsimp only [List.set]
  refine g_aload_n (n := 17) C dX3_copy_16 rfl rfl ?_
  refine g_aload_n (n := 18) C dX3_copy_17 rfl rfl ?_
  refine b_get (n := 21) (T := TX3) 1 C dX3_copy_18 rfl ha haq rfl rfl (by decide) inX3 w_131 rfl ?_
  refine l_put (n := 24) (T := TX3) (ty0 := tyX3) C 0 1 dX3_copy_21 rfl A0 rfl rfl (by decide) inX3 w_131 rfl tyX3_ok nmX3 rfl rfl rfl rfl (by show 1 < 3; decide) ?_
  dsimp only [List.set]
  refine g_aload_n (n := 25) C dX3_copy_24 rfl rfl ?_
  refine g_aload_n (n := 26) C dX3_copy_25 rfl rfl ?_
  refine b_get (n := 29) (T := TX3) 2 C dX3_copy_26 rfl ha haq rfl rfl (by decide) inX3 w_133 rfl ?_
  refine l_put (n := 32) (T := TX3) (ty0 := tyX3) C 0 2 dX3_copy_29 rfl A0 rfl rfl (by decide) inX3 w_133 rfl tyX3_ok nmX3 rfl rfl rfl rfl (by show 2 < 3; decide) ?_
  dsimp only [List.set]
  refine g_aload_n (n := 33) C dX3_copy_32 rfl rfl ?_
  refine g_aret C dX3_copy_33 (by first | exact Or.inl ⟨_, rfl⟩ | exact Or.inr ⟨_, rfl⟩) (by decide) (by decide) ?_
  exact hp q hqq
