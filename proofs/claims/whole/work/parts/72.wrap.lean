theorem Mx.mono {l : Launch} {E : Ev} {y : MethodName} {cc : ByteArray} {maxL : Nat} {ret : Option FieldType} {fr lo mc ms : Nat} {av : List Value} {h : AH} {P P' : Value → AH → Prop} {PX PX' : String → AH → Prop} (hp : ∀ v h, P v h → P' v h) (hx : ∀ x h, PX x h → PX' x h) (q : Mx l E y cc maxL ret fr lo mc ms av h P PX) : Mx l E y cc maxL ret fr lo mc ms av h P' PX' := by
  unfold Mx vx_Met at q ⊢
  refine MetFree.mono q (fun _ _ h => h) (fun _ _ _ _ _ h => h) (fun _ _ _ _ _ h => ?_)
  rcases h with ⟨h1, h2⟩ | ⟨q, h1, E9, ce, L, ⟨h', a, b, c⟩, r⟩
  · exact Or.inl ⟨h1.mono hp, h2⟩
  · exact Or.inr ⟨q, h1, E9, ce, L, ⟨h', hx _ _ a, b, c⟩, r⟩
theorem dL_step_0 : decode cL_step 0 = .ok (.aload_n 0, 1) := by decide +kernel
theorem dL_step_1 : decode cL_step 1 = .ok (.iload_n 1, 1) := by decide +kernel
theorem dL_step_2 : decode cL_step 2 = .ok (.invokevirtual 7, 3) := by decide +kernel
theorem dL_step_5 : decode cL_step 5 = .ok (.goto 6, 3) := by decide +kernel
theorem dL_step_8 : decode cL_step 8 = .ok (.astore_n 2, 1) := by decide +kernel
theorem dL_step_9 : decode cL_step 9 = .ok (.iconst 1, 1) := by decide +kernel
theorem dL_step_10 : decode cL_step 10 = .ok (.ireturn, 1) := by decide +kernel
theorem dL_step_11 : decode cL_step 11 = .ok (.iconst 0, 1) := by decide +kernel
theorem dL_step_12 : decode cL_step 12 = .ok (.ireturn, 1) := by decide +kernel
set_option maxHeartbeats 1000000 in
set_option maxRecDepth 20000 in
theorem lw_step {l : Launch} {E : Ev} {x o ou n m n9 m9 : Nat} {F F9 : Nat → Int32} {A A9 : Nat → Nat → Int32} {Fm : Nat → Int32} {Am : Nat → Nat → Int32} {h : AH} {k v : Int32} (I9 : WI E x o ou F A n m Fm Am h) {s : Int32} (hM : Mx l E yX10_step cX10_step 2 none 6 90 4 24 [.ref x, .int s] h (fun v1 h1 => v1 = .null ∧ k = 0 ∧ WI E x o ou F9 A9 n9 m9 Fm Am h1) (fun x1 h1 => ((x1 = "java/lang/IllegalArgumentException" ∧ k = 1)) ∧ WI E x o ou F9 A9 n9 m9 Fm Am h1)) {P : Value → AH → Prop} (kp : ∀ h1, WO E x o ou F9 A9 n9 m9 Fm Am (fun _ => True) h1 → P (.int k) h1) : MxW l E yL_step cL_step 3 (some .int) [(0, 5, 8, 13)] 12 330 4 24 [.ref x, .int s] h P := by
  refine MxW.of (by decide) (Nat.le_of_ble_eq_true rfl) ?_
  intro K hK hR htab C
  subst hK
  obtain ⟨vs9, hx9⟩ := I9.obj
  refine g_aload_n (n := 1) C dL_step_0 rfl rfl ?_
  refine g_iload_n (n := 2) C dL_step_1 rfl rfl ?_
  refine g_callVx (n := 5) (As := [.int _]) C dL_step_2 rfl mw_X10_step w_418 (g_recv C hx9 rfl) rfl rfl (room hR rfl) (hM.mono (fun v1 h1 q9 => ?_) (fun x1 h1 q9 => ?_))
  · --returns
    obtain ⟨rfl, rfl, w9⟩ := q9
    refine g_goto (t := 11) C dL_step_5 (by decide) ?_
    refine g_iconst (n := 12) (v := 0) C dL_step_11 rfl (by decide) ?_
    refine g_x ?_
    refine g_iret C dL_step_12 (by decide) (by decide) ?_
    exact kp _ (w9.wo.imp fun _ _ => trivial)
  · --throws
    obtain ⟨⟨rfl, rfl⟩, w9⟩ := q9
    refine g_catch (n := 8) (name := "java/lang/IllegalArgumentException") C [] (⟨0, 5, 8, 13⟩ : ExceptionTableEntry) [] (htab.trans (by rfl)) (fun w hw => nomatch hw) (by decide) (by decide) w_417 t_424 rfl (fun q9 => ?_)
    refine g_astore_n (n := 9) C dL_step_8 rfl (by decide) ?_
    refine g_iconst (n := 10) (v := 1) C dL_step_9 rfl (by decide) ?_
    refine g_x ?_
    refine g_iret C dL_step_10 (by decide) (by decide) ?_
    exact kp _ (w9.wo.imp fun _ _ => trivial)
theorem dL_days_0 : decode cL_days 0 = .ok (.aload_n 2, 1) := by decide +kernel
theorem dL_days_1 : decode cL_days 1 = .ok (.iconst 0, 1) := by decide +kernel
theorem dL_days_2 : decode cL_days 2 = .ok (.aload_n 0, 1) := by decide +kernel
theorem dL_days_3 : decode cL_days 3 = .ok (.iload_n 1, 1) := by decide +kernel
theorem dL_days_4 : decode cL_days 4 = .ok (.invokevirtual 38, 3) := by decide +kernel
theorem dL_days_7 : decode cL_days 7 = .ok (.i2l, 1) := by decide +kernel
theorem dL_days_8 : decode cL_days 8 = .ok (.lastore, 1) := by decide +kernel
theorem dL_days_9 : decode cL_days 9 = .ok (.goto 6, 3) := by decide +kernel
theorem dL_days_12 : decode cL_days 12 = .ok (.astore_n 3, 1) := by decide +kernel
theorem dL_days_13 : decode cL_days 13 = .ok (.iconst 1, 1) := by decide +kernel
theorem dL_days_14 : decode cL_days 14 = .ok (.ireturn, 1) := by decide +kernel
theorem dL_days_15 : decode cL_days 15 = .ok (.iconst 0, 1) := by decide +kernel
theorem dL_days_16 : decode cL_days 16 = .ok (.ireturn, 1) := by decide +kernel
set_option maxHeartbeats 1000000 in
set_option maxRecDepth 20000 in
theorem lw_days {l : Launch} {E : Ev} {x o ou n m n9 m9 : Nat} {F F9 : Nat → Int32} {A A9 : Nat → Nat → Int32} {Fm : Nat → Int32} {Am : Nat → Nat → Int32} {h : AH} {k v : Int32} (I9 : WI E x o ou F A n m Fm Am h) {p : Int32} (hM : Mx l E yX10_days cX10_days 2 (some .int) 6 90 4 24 [.ref x, .int p] h (fun v1 h1 => v1 = .int v ∧ k = 0 ∧ WI E x o ou F9 A9 n9 m9 Fm Am h1) (fun x1 h1 => ((x1 = "java/lang/IllegalArgumentException" ∧ k = 1)) ∧ WI E x o ou F9 A9 n9 m9 Fm Am h1)) {P : Value → AH → Prop} (kp : ∀ h1, WO E x o ou F9 A9 n9 m9 Fm Am (fun O => k = 0 → O 0 = v.toInt64) h1 → P (.int k) h1) : MxW l E yL_days cL_days 4 (some .int) [(0, 9, 12, 13)] 12 330 4 24 [.ref x, .int p, .ref ou] h P := by
  refine MxW.of (by decide) (Nat.le_of_ble_eq_true rfl) ?_
  intro K hK hR htab C
  subst hK
  obtain ⟨vs9, hx9⟩ := I9.obj
  refine g_aload_n (n := 1) C dL_days_0 rfl rfl ?_
  refine g_iconst (n := 2) (v := 0) C dL_days_1 rfl (by decide) ?_
  refine g_aload_n (n := 3) C dL_days_2 rfl rfl ?_
  refine g_iload_n (n := 4) C dL_days_3 rfl rfl ?_
  refine g_callVx (n := 7) (As := [.int _]) C dL_days_4 rfl mw_X10_days w_871 (g_recv C hx9 rfl) rfl rfl (room hR rfl) (hM.mono (fun v1 h1 q9 => ?_) (fun x1 h1 q9 => ?_))
  · --returns
    obtain ⟨rfl, rfl, w9⟩ := q9
    obtain ⟨O9, ho9, hw9⟩ := w9.out
    refine g_i2l (n := 8) C dL_days_7 rfl ?_
    refine g_last (n := 9) C dL_days_8 rfl ho9 (by unfold vp_in; decide) ?_
    refine g_goto (t := 15) C dL_days_9 (by decide) ?_
    refine g_iconst (n := 16) (v := 0) C dL_days_15 rfl (by decide) ?_
    refine g_x ?_
    refine g_iret C dL_days_16 (by decide) (by decide) ?_
    exact kp _ ((hw9 _).imp fun _ e9 _ => by rw [e9]; exact if_pos rfl)
  · --throws
    obtain ⟨⟨rfl, rfl⟩, w9⟩ := q9
    refine g_catch (n := 12) (name := "java/lang/IllegalArgumentException") C [] (⟨0, 9, 12, 13⟩ : ExceptionTableEntry) [] (htab.trans (by rfl)) (fun w hw => nomatch hw) (by decide) (by decide) w_417 t_424 rfl (fun q9 => ?_)
    refine g_astore_n (n := 13) C dL_days_12 rfl (by decide) ?_
    refine g_iconst (n := 14) (v := 1) C dL_days_13 rfl (by decide) ?_
    refine g_x ?_
    refine g_iret C dL_days_14 (by decide) (by decide) ?_
    exact kp _ (w9.wo.imp fun _ _ z9 => absurd z9 (by decide))
theorem dL_lay_0 : decode cL_lay 0 = .ok (.aload_n 2, 1) := by decide +kernel
theorem dL_lay_1 : decode cL_lay 1 = .ok (.iconst 0, 1) := by decide +kernel
theorem dL_lay_2 : decode cL_lay 2 = .ok (.aload_n 0, 1) := by decide +kernel
theorem dL_lay_3 : decode cL_lay 3 = .ok (.iload_n 1, 1) := by decide +kernel
theorem dL_lay_4 : decode cL_lay 4 = .ok (.invokevirtual 56, 3) := by decide +kernel
theorem dL_lay_7 : decode cL_lay 7 = .ok (.i2l, 1) := by decide +kernel
theorem dL_lay_8 : decode cL_lay 8 = .ok (.lastore, 1) := by decide +kernel
theorem dL_lay_9 : decode cL_lay 9 = .ok (.goto 6, 3) := by decide +kernel
theorem dL_lay_12 : decode cL_lay 12 = .ok (.astore_n 3, 1) := by decide +kernel
theorem dL_lay_13 : decode cL_lay 13 = .ok (.iconst 1, 1) := by decide +kernel
theorem dL_lay_14 : decode cL_lay 14 = .ok (.ireturn, 1) := by decide +kernel
theorem dL_lay_15 : decode cL_lay 15 = .ok (.iconst 0, 1) := by decide +kernel
theorem dL_lay_16 : decode cL_lay 16 = .ok (.ireturn, 1) := by decide +kernel
set_option maxHeartbeats 1000000 in
set_option maxRecDepth 20000 in
theorem lw_lay {l : Launch} {E : Ev} {x o ou n m n9 m9 : Nat} {F F9 : Nat → Int32} {A A9 : Nat → Nat → Int32} {Fm : Nat → Int32} {Am : Nat → Nat → Int32} {h : AH} {k v : Int32} (I9 : WI E x o ou F A n m Fm Am h) {p : Int32} (hM : Mx l E yX10_lay cX10_lay 2 (some .int) 6 90 4 24 [.ref x, .int p] h (fun v1 h1 => v1 = .int v ∧ k = 0 ∧ WI E x o ou F9 A9 n9 m9 Fm Am h1) (fun x1 h1 => ((x1 = "java/lang/IllegalArgumentException" ∧ k = 1)) ∧ WI E x o ou F9 A9 n9 m9 Fm Am h1)) {P : Value → AH → Prop} (kp : ∀ h1, WO E x o ou F9 A9 n9 m9 Fm Am (fun O => k = 0 → O 0 = v.toInt64) h1 → P (.int k) h1) : MxW l E yL_lay cL_lay 4 (some .int) [(0, 9, 12, 13)] 12 330 4 24 [.ref x, .int p, .ref ou] h P := by
  refine MxW.of (by decide) (Nat.le_of_ble_eq_true rfl) ?_
  intro K hK hR htab C
  subst hK
  obtain ⟨vs9, hx9⟩ := I9.obj
  refine g_aload_n (n := 1) C dL_lay_0 rfl rfl ?_
  refine g_iconst (n := 2) (v := 0) C dL_lay_1 rfl (by decide) ?_
  refine g_aload_n (n := 3) C dL_lay_2 rfl rfl ?_
  refine g_iload_n (n := 4) C dL_lay_3 rfl rfl ?_
  refine g_callVx (n := 7) (As := [.int _]) C dL_lay_4 rfl mw_X10_lay w_990 (g_recv C hx9 rfl) rfl rfl (room hR rfl) (hM.mono (fun v1 h1 q9 => ?_) (fun x1 h1 q9 => ?_))
  · --returns
    obtain ⟨rfl, rfl, w9⟩ := q9
    obtain ⟨O9, ho9, hw9⟩ := w9.out
    refine g_i2l (n := 8) C dL_lay_7 rfl ?_
    refine g_last (n := 9) C dL_lay_8 rfl ho9 (by unfold vp_in; decide) ?_
    refine g_goto (t := 15) C dL_lay_9 (by decide) ?_
    refine g_iconst (n := 16) (v := 0) C dL_lay_15 rfl (by decide) ?_
    refine g_x ?_
    refine g_iret C dL_lay_16 (by decide) (by decide) ?_
    exact kp _ ((hw9 _).imp fun _ e9 _ => by rw [e9]; exact if_pos rfl)
  · --throws
    obtain ⟨⟨rfl, rfl⟩, w9⟩ := q9
    refine g_catch (n := 12) (name := "java/lang/IllegalArgumentException") C [] (⟨0, 9, 12, 13⟩ : ExceptionTableEntry) [] (htab.trans (by rfl)) (fun w hw => nomatch hw) (by decide) (by decide) w_417 t_424 rfl (fun q9 => ?_)
    refine g_astore_n (n := 13) C dL_lay_12 rfl (by decide) ?_
    refine g_iconst (n := 14) (v := 1) C dL_lay_13 rfl (by decide) ?_
    refine g_x ?_
    refine g_iret C dL_lay_14 (by decide) (by decide) ?_
    exact kp _ (w9.wo.imp fun _ _ z9 => absurd z9 (by decide))
theorem dL_rough_0 : decode cL_rough 0 = .ok (.aload_n 0, 1) := by decide +kernel
theorem dL_rough_1 : decode cL_rough 1 = .ok (.iload_n 1, 1) := by decide +kernel
theorem dL_rough_2 : decode cL_rough 2 = .ok (.iload_n 2, 1) := by decide +kernel
theorem dL_rough_3 : decode cL_rough 3 = .ok (.invokevirtual 69, 3) := by decide +kernel
theorem dL_rough_6 : decode cL_rough 6 = .ok (.goto 6, 3) := by decide +kernel
theorem dL_rough_9 : decode cL_rough 9 = .ok (.astore_n 3, 1) := by decide +kernel
theorem dL_rough_10 : decode cL_rough 10 = .ok (.iconst 1, 1) := by decide +kernel
theorem dL_rough_11 : decode cL_rough 11 = .ok (.ireturn, 1) := by decide +kernel
theorem dL_rough_12 : decode cL_rough 12 = .ok (.iconst 0, 1) := by decide +kernel
theorem dL_rough_13 : decode cL_rough 13 = .ok (.ireturn, 1) := by decide +kernel
set_option maxHeartbeats 1000000 in
set_option maxRecDepth 20000 in
theorem lw_rough {l : Launch} {E : Ev} {x o ou n m n9 m9 : Nat} {F F9 : Nat → Int32} {A A9 : Nat → Nat → Int32} {Fm : Nat → Int32} {Am : Nat → Nat → Int32} {h : AH} {k v : Int32} (I9 : WI E x o ou F A n m Fm Am h) {w g : Int32} (hM : Mx l E yX10_rough cX10_rough 3 none 6 90 4 24 [.ref x, .int w, .int g] h (fun v1 h1 => v1 = .null ∧ k = 0 ∧ WI E x o ou F9 A9 n9 m9 Fm Am h1) (fun x1 h1 => ((x1 = "java/lang/IllegalArgumentException" ∧ k = 1)) ∧ WI E x o ou F9 A9 n9 m9 Fm Am h1)) {P : Value → AH → Prop} (kp : ∀ h1, WO E x o ou F9 A9 n9 m9 Fm Am (fun _ => True) h1 → P (.int k) h1) : MxW l E yL_rough cL_rough 4 (some .int) [(0, 6, 9, 13)] 12 330 4 24 [.ref x, .int w, .int g] h P := by
  refine MxW.of (by decide) (Nat.le_of_ble_eq_true rfl) ?_
  intro K hK hR htab C
  subst hK
  obtain ⟨vs9, hx9⟩ := I9.obj
  refine g_aload_n (n := 1) C dL_rough_0 rfl rfl ?_
  refine g_iload_n (n := 2) C dL_rough_1 rfl rfl ?_
  refine g_iload_n (n := 3) C dL_rough_2 rfl rfl ?_
  refine g_callVx (n := 6) (As := [.int _, .int _]) C dL_rough_3 rfl mw_X10_rough w_1069 (g_recv C hx9 rfl) rfl rfl (room hR rfl) (hM.mono (fun v1 h1 q9 => ?_) (fun x1 h1 q9 => ?_))
  · --returns
    obtain ⟨rfl, rfl, w9⟩ := q9
    refine g_goto (t := 12) C dL_rough_6 (by decide) ?_
    refine g_iconst (n := 13) (v := 0) C dL_rough_12 rfl (by decide) ?_
    refine g_x ?_
    refine g_iret C dL_rough_13 (by decide) (by decide) ?_
    exact kp _ (w9.wo.imp fun _ _ => trivial)
  · --throws
    obtain ⟨⟨rfl, rfl⟩, w9⟩ := q9
    refine g_catch (n := 9) (name := "java/lang/IllegalArgumentException") C [] (⟨0, 6, 9, 13⟩ : ExceptionTableEntry) [] (htab.trans (by rfl)) (fun w hw => nomatch hw) (by decide) (by decide) w_417 t_424 rfl (fun q9 => ?_)
    refine g_astore_n (n := 10) C dL_rough_9 rfl (by decide) ?_
    refine g_iconst (n := 11) (v := 1) C dL_rough_10 rfl (by decide) ?_
    refine g_x ?_
    refine g_iret C dL_rough_11 (by decide) (by decide) ?_
    exact kp _ (w9.wo.imp fun _ _ => trivial)
theorem dL_sink_0 : decode cL_sink 0 = .ok (.aload_n 2, 1) := by decide +kernel
theorem dL_sink_1 : decode cL_sink 1 = .ok (.iconst 0, 1) := by decide +kernel
theorem dL_sink_2 : decode cL_sink 2 = .ok (.aload_n 0, 1) := by decide +kernel
theorem dL_sink_3 : decode cL_sink 3 = .ok (.iload_n 1, 1) := by decide +kernel
theorem dL_sink_4 : decode cL_sink 4 = .ok (.invokevirtual 22, 3) := by decide +kernel
theorem dL_sink_7 : decode cL_sink 7 = .ok (.i2l, 1) := by decide +kernel
theorem dL_sink_8 : decode cL_sink 8 = .ok (.lastore, 1) := by decide +kernel
theorem dL_sink_9 : decode cL_sink 9 = .ok (.goto 9, 3) := by decide +kernel
theorem dL_sink_12 : decode cL_sink 12 = .ok (.astore_n 3, 1) := by decide +kernel
theorem dL_sink_13 : decode cL_sink 13 = .ok (.iconst 1, 1) := by decide +kernel
theorem dL_sink_14 : decode cL_sink 14 = .ok (.ireturn, 1) := by decide +kernel
theorem dL_sink_15 : decode cL_sink 15 = .ok (.astore_n 3, 1) := by decide +kernel
theorem dL_sink_16 : decode cL_sink 16 = .ok (.iconst 2, 1) := by decide +kernel
theorem dL_sink_17 : decode cL_sink 17 = .ok (.ireturn, 1) := by decide +kernel
theorem dL_sink_18 : decode cL_sink 18 = .ok (.iconst 0, 1) := by decide +kernel
theorem dL_sink_19 : decode cL_sink 19 = .ok (.ireturn, 1) := by decide +kernel
set_option maxHeartbeats 1000000 in
set_option maxRecDepth 20000 in
theorem lw_sink {l : Launch} {E : Ev} {x o ou n m n9 m9 : Nat} {F F9 : Nat → Int32} {A A9 : Nat → Nat → Int32} {Fm : Nat → Int32} {Am : Nat → Nat → Int32} {h : AH} {k v : Int32} (I9 : WI E x o ou F A n m Fm Am h) {s : Int32} (hM : Mx l E yX10_sink cX10_sink 2 (some .int) 8 173 3 112 [.ref x, .int s] h (fun v1 h1 => v1 = .int v ∧ k = 0 ∧ WI E x o ou F9 A9 n9 m9 Fm Am h1) (fun x1 h1 => ((x1 = "java/lang/IndexOutOfBoundsException" ∧ k = 1) ∨ (x1 = "java/lang/UnsupportedOperationException" ∧ k = 2)) ∧ WI E x o ou F9 A9 n9 m9 Fm Am h1)) {P : Value → AH → Prop} (kp : ∀ h1, WO E x o ou F9 A9 n9 m9 Fm Am (fun O => k = 0 → O 0 = v.toInt64) h1 → P (.int k) h1) : MxW l E yL_sink cL_sink 4 (some .int) [(0, 9, 12, 26), (0, 9, 15, 28)] 12 330 3 112 [.ref x, .int s, .ref ou] h P := by
  refine MxW.of (by decide) (Nat.le_of_ble_eq_true rfl) ?_
  intro K hK hR htab C
  subst hK
  obtain ⟨vs9, hx9⟩ := I9.obj
  refine g_aload_n (n := 1) C dL_sink_0 rfl rfl ?_
  refine g_iconst (n := 2) (v := 0) C dL_sink_1 rfl (by decide) ?_
  refine g_aload_n (n := 3) C dL_sink_2 rfl rfl ?_
  refine g_iload_n (n := 4) C dL_sink_3 rfl rfl ?_
  refine g_callVx (n := 7) (As := [.int _]) C dL_sink_4 rfl mw_X10_sink w_700 (g_recv C hx9 rfl) rfl rfl (room hR rfl) (hM.mono (fun v1 h1 q9 => ?_) (fun x1 h1 q9 => ?_))
  · --returns
    obtain ⟨rfl, rfl, w9⟩ := q9
    obtain ⟨O9, ho9, hw9⟩ := w9.out
    refine g_i2l (n := 8) C dL_sink_7 rfl ?_
    refine g_last (n := 9) C dL_sink_8 rfl ho9 (by unfold vp_in; decide) ?_
    refine g_goto (t := 18) C dL_sink_9 (by decide) ?_
    refine g_iconst (n := 19) (v := 0) C dL_sink_18 rfl (by decide) ?_
    refine g_x ?_
    refine g_iret C dL_sink_19 (by decide) (by decide) ?_
    exact kp _ ((hw9 _).imp fun _ e9 _ => by rw [e9]; exact if_pos rfl)
  · --throws
    obtain ⟨(⟨rfl, rfl⟩ | ⟨rfl, rfl⟩), w9⟩ := q9
    · --IOOB
      refine g_catch (n := 12) (name := "java/lang/IndexOutOfBoundsException") C [] (⟨0, 9, 12, 26⟩ : ExceptionTableEntry) [(⟨0, 9, 15, 28⟩ : ExceptionTableEntry)] (htab.trans (by rfl)) (fun w hw => nomatch hw) (by decide) (by decide) w_698 t_709 rfl (fun q9 => ?_)
      refine g_astore_n (n := 13) C dL_sink_12 rfl (by decide) ?_
      refine g_iconst (n := 14) (v := 1) C dL_sink_13 rfl (by decide) ?_
      refine g_x ?_
      refine g_iret C dL_sink_14 (by decide) (by decide) ?_
      exact kp _ (w9.wo.imp fun _ _ z9 => absurd z9 (by decide))
    · --UOE
      refine g_catch (n := 15) (name := "java/lang/UnsupportedOperationException") C [(⟨0, 9, 12, 26⟩ : ExceptionTableEntry)] (⟨0, 9, 15, 28⟩ : ExceptionTableEntry) [] (htab.trans (by rfl)) (by
        intro w hw
        simp only [List.mem_cons, List.not_mem_nil, or_false] at hw
        rcases hw with rfl
        exact ⟨by decide, "java/lang/IndexOutOfBoundsException", w_698, exc_ne C (by decide) (by decide) (by decide)⟩) (by decide) (by decide) w_699 t_725 rfl (fun q9 => ?_)
      refine g_astore_n (n := 16) C dL_sink_15 rfl (by decide) ?_
      refine g_iconst (n := 17) (v := 2) C dL_sink_16 rfl (by decide) ?_
      refine g_x ?_
      refine g_iret C dL_sink_17 (by decide) (by decide) ?_
      exact kp _ (w9.wo.imp fun _ _ z9 => absurd z9 (by decide))
theorem dL_span_0 : decode cL_span 0 = .ok (.aload_n 3, 1) := by decide +kernel
theorem dL_span_1 : decode cL_span 1 = .ok (.iconst 0, 1) := by decide +kernel
theorem dL_span_2 : decode cL_span 2 = .ok (.aload_n 0, 1) := by decide +kernel
theorem dL_span_3 : decode cL_span 3 = .ok (.iload_n 1, 1) := by decide +kernel
theorem dL_span_4 : decode cL_span 4 = .ok (.iload_n 2, 1) := by decide +kernel
theorem dL_span_5 : decode cL_span 5 = .ok (.invokevirtual 41, 3) := by decide +kernel
theorem dL_span_8 : decode cL_span 8 = .ok (.i2l, 1) := by decide +kernel
theorem dL_span_9 : decode cL_span 9 = .ok (.lastore, 1) := by decide +kernel
theorem dL_span_10 : decode cL_span 10 = .ok (.goto 7, 3) := by decide +kernel
theorem dL_span_13 : decode cL_span 13 = .ok (.astore 4, 2) := by decide +kernel
theorem dL_span_15 : decode cL_span 15 = .ok (.iconst 1, 1) := by decide +kernel
theorem dL_span_16 : decode cL_span 16 = .ok (.ireturn, 1) := by decide +kernel
theorem dL_span_17 : decode cL_span 17 = .ok (.iconst 0, 1) := by decide +kernel
theorem dL_span_18 : decode cL_span 18 = .ok (.ireturn, 1) := by decide +kernel
set_option maxHeartbeats 1000000 in
set_option maxRecDepth 20000 in
theorem lw_span {l : Launch} {E : Ev} {x o ou n m n9 m9 : Nat} {F F9 : Nat → Int32} {A A9 : Nat → Nat → Int32} {Fm : Nat → Int32} {Am : Nat → Nat → Int32} {h : AH} {k v : Int32} (I9 : WI E x o ou F A n m Fm Am h) {s m8 : Int32} (hM : Mx l E yX10_span cX10_span 3 (some .int) 7 110 4 24 [.ref x, .int s, .int m8] h (fun v1 h1 => v1 = .int v ∧ k = 0 ∧ WI E x o ou F9 A9 n9 m9 Fm Am h1) (fun x1 h1 => ((x1 = "java/lang/IndexOutOfBoundsException" ∧ k = 1)) ∧ WI E x o ou F9 A9 n9 m9 Fm Am h1)) {P : Value → AH → Prop} (kp : ∀ h1, WO E x o ou F9 A9 n9 m9 Fm Am (fun O => k = 0 → O 0 = v.toInt64) h1 → P (.int k) h1) : MxW l E yL_span cL_span 5 (some .int) [(0, 10, 13, 26)] 12 330 4 24 [.ref x, .int s, .int m8, .ref ou] h P := by
  refine MxW.of (by decide) (Nat.le_of_ble_eq_true rfl) ?_
  intro K hK hR htab C
  subst hK
  obtain ⟨vs9, hx9⟩ := I9.obj
  refine g_aload_n (n := 1) C dL_span_0 rfl rfl ?_
  refine g_iconst (n := 2) (v := 0) C dL_span_1 rfl (by decide) ?_
  refine g_aload_n (n := 3) C dL_span_2 rfl rfl ?_
  refine g_iload_n (n := 4) C dL_span_3 rfl rfl ?_
  refine g_iload_n (n := 5) C dL_span_4 rfl rfl ?_
  refine g_callVx (n := 8) (As := [.int _, .int _]) C dL_span_5 rfl mw_X10_span w_883 (g_recv C hx9 rfl) rfl rfl (room hR rfl) (hM.mono (fun v1 h1 q9 => ?_) (fun x1 h1 q9 => ?_))
  · --returns
    obtain ⟨rfl, rfl, w9⟩ := q9
    obtain ⟨O9, ho9, hw9⟩ := w9.out
    refine g_i2l (n := 9) C dL_span_8 rfl ?_
    refine g_last (n := 10) C dL_span_9 rfl ho9 (by unfold vp_in; decide) ?_
    refine g_goto (t := 17) C dL_span_10 (by decide) ?_
    refine g_iconst (n := 18) (v := 0) C dL_span_17 rfl (by decide) ?_
    refine g_x ?_
    refine g_iret C dL_span_18 (by decide) (by decide) ?_
    exact kp _ ((hw9 _).imp fun _ e9 _ => by rw [e9]; exact if_pos rfl)
  · --throws
    obtain ⟨⟨rfl, rfl⟩, w9⟩ := q9
    refine g_catch (n := 13) (name := "java/lang/IndexOutOfBoundsException") C [] (⟨0, 10, 13, 26⟩ : ExceptionTableEntry) [] (htab.trans (by rfl)) (fun w hw => nomatch hw) (by decide) (by decide) w_698 t_709 rfl (fun q9 => ?_)
    refine g_astore (n := 15) C dL_span_13 rfl (by decide) ?_
    refine g_iconst (n := 16) (v := 1) C dL_span_15 rfl (by decide) ?_
    refine g_x ?_
    refine g_iret C dL_span_16 (by decide) (by decide) ?_
    exact kp _ (w9.wo.imp fun _ _ z9 => absurd z9 (by decide))
theorem dL_wash_0 : decode cL_wash 0 = .ok (.aload_n 3, 1) := by decide +kernel
theorem dL_wash_1 : decode cL_wash 1 = .ok (.iconst 0, 1) := by decide +kernel
theorem dL_wash_2 : decode cL_wash 2 = .ok (.aload_n 0, 1) := by decide +kernel
theorem dL_wash_3 : decode cL_wash 3 = .ok (.iload_n 1, 1) := by decide +kernel
theorem dL_wash_4 : decode cL_wash 4 = .ok (.iload_n 2, 1) := by decide +kernel
theorem dL_wash_5 : decode cL_wash 5 = .ok (.invokevirtual 30, 3) := by decide +kernel
theorem dL_wash_8 : decode cL_wash 8 = .ok (.ifCond .eq 7, 3) := by decide +kernel
theorem dL_wash_11 : decode cL_wash 11 = .ok (.lconst 1, 1) := by decide +kernel
theorem dL_wash_12 : decode cL_wash 12 = .ok (.goto 4, 3) := by decide +kernel
theorem dL_wash_15 : decode cL_wash 15 = .ok (.lconst 0, 1) := by decide +kernel
theorem dL_wash_16 : decode cL_wash 16 = .ok (.lastore, 1) := by decide +kernel
theorem dL_wash_17 : decode cL_wash 17 = .ok (.goto 11, 3) := by decide +kernel
theorem dL_wash_20 : decode cL_wash 20 = .ok (.astore 4, 2) := by decide +kernel
theorem dL_wash_22 : decode cL_wash 22 = .ok (.iconst 1, 1) := by decide +kernel
theorem dL_wash_23 : decode cL_wash 23 = .ok (.ireturn, 1) := by decide +kernel
theorem dL_wash_24 : decode cL_wash 24 = .ok (.astore 4, 2) := by decide +kernel
theorem dL_wash_26 : decode cL_wash 26 = .ok (.iconst 2, 1) := by decide +kernel
theorem dL_wash_27 : decode cL_wash 27 = .ok (.ireturn, 1) := by decide +kernel
theorem dL_wash_28 : decode cL_wash 28 = .ok (.iconst 0, 1) := by decide +kernel
theorem dL_wash_29 : decode cL_wash 29 = .ok (.ireturn, 1) := by decide +kernel
set_option maxHeartbeats 1000000 in
set_option maxRecDepth 20000 in
theorem lw_wash {l : Launch} {E : Ev} {x o ou n m n9 m9 : Nat} {F F9 : Nat → Int32} {A A9 : Nat → Nat → Int32} {Fm : Nat → Int32} {Am : Nat → Nat → Int32} {h : AH} {k v : Int32} (I9 : WI E x o ou F A n m Fm Am h) {p g : Int32} (hM : Mx l E yX10_wash cX10_wash 4 (some .boolean) 7 111 4 24 [.ref x, .int p, .int g] h (fun v1 h1 => v1 = .int v ∧ k = 0 ∧ WI E x o ou F9 A9 n9 m9 Fm Am h1) (fun x1 h1 => ((x1 = "java/lang/IndexOutOfBoundsException" ∧ k = 1) ∨ (x1 = "java/lang/IllegalArgumentException" ∧ k = 2)) ∧ WI E x o ou F9 A9 n9 m9 Fm Am h1)) {P : Value → AH → Prop} (kp : ∀ h1, WO E x o ou F9 A9 n9 m9 Fm Am (fun O => k = 0 → O 0 = (if v = 0 then (0 : Int64) else 1)) h1 → P (.int k) h1) : MxW l E yL_wash cL_wash 5 (some .int) [(0, 17, 20, 26), (0, 17, 24, 13)] 12 330 4 24 [.ref x, .int p, .int g, .ref ou] h P := by
  refine MxW.of (by decide) (Nat.le_of_ble_eq_true rfl) ?_
  intro K hK hR htab C
  subst hK
  obtain ⟨vs9, hx9⟩ := I9.obj
  refine g_aload_n (n := 1) C dL_wash_0 rfl rfl ?_
  refine g_iconst (n := 2) (v := 0) C dL_wash_1 rfl (by decide) ?_
  refine g_aload_n (n := 3) C dL_wash_2 rfl rfl ?_
  refine g_iload_n (n := 4) C dL_wash_3 rfl rfl ?_
  refine g_iload_n (n := 5) C dL_wash_4 rfl rfl ?_
  refine g_callVx (n := 8) (As := [.int _, .int _]) C dL_wash_5 rfl mw_X10_wash w_839 (g_recv C hx9 rfl) rfl rfl (room hR rfl) (hM.mono (fun v1 h1 q9 => ?_) (fun x1 h1 q9 => ?_))
  · --returns
    obtain ⟨rfl, rfl, w9⟩ := q9
    obtain ⟨O9, ho9, hw9⟩ := w9.out
    refine g_if_eq (n := 11) (t := 15) C dL_wash_8 rfl (by decide) (fun zc8 => ?_) (fun zc8 => ?_)
    · --t8
      refine g_lconst (n := 16) (v := 0) C dL_wash_15 rfl (by decide) ?_
      refine g_last (n := 17) C dL_wash_16 rfl ho9 (by unfold vp_in; decide) ?_
      refine g_goto (t := 28) C dL_wash_17 (by decide) ?_
      refine g_iconst (n := 29) (v := 0) C dL_wash_28 rfl (by decide) ?_
      refine g_x ?_
      refine g_iret C dL_wash_29 (by decide) (by decide) ?_
      exact kp _ ((hw9 _).imp fun _ e9 _ => by rw [e9]; first | exact (if_pos rfl).trans (if_pos (by assumption)).symm | exact (if_pos rfl).trans (if_neg (by assumption)).symm)
    · --f8
      refine g_lconst (n := 12) (v := 1) C dL_wash_11 rfl (by decide) ?_
      refine g_goto (t := 16) C dL_wash_12 (by decide) ?_
      refine g_last (n := 17) C dL_wash_16 rfl ho9 (by unfold vp_in; decide) ?_
      refine g_goto (t := 28) C dL_wash_17 (by decide) ?_
      refine g_iconst (n := 29) (v := 0) C dL_wash_28 rfl (by decide) ?_
      refine g_x ?_
      refine g_iret C dL_wash_29 (by decide) (by decide) ?_
      exact kp _ ((hw9 _).imp fun _ e9 _ => by rw [e9]; first | exact (if_pos rfl).trans (if_pos (by assumption)).symm | exact (if_pos rfl).trans (if_neg (by assumption)).symm)
  · --throws
    obtain ⟨(⟨rfl, rfl⟩ | ⟨rfl, rfl⟩), w9⟩ := q9
    · --IOOB
      refine g_catch (n := 20) (name := "java/lang/IndexOutOfBoundsException") C [] (⟨0, 17, 20, 26⟩ : ExceptionTableEntry) [(⟨0, 17, 24, 13⟩ : ExceptionTableEntry)] (htab.trans (by rfl)) (fun w hw => nomatch hw) (by decide) (by decide) w_698 t_709 rfl (fun q9 => ?_)
      refine g_astore (n := 22) C dL_wash_20 rfl (by decide) ?_
      refine g_iconst (n := 23) (v := 1) C dL_wash_22 rfl (by decide) ?_
      refine g_x ?_
      refine g_iret C dL_wash_23 (by decide) (by decide) ?_
      exact kp _ (w9.wo.imp fun _ _ z9 => absurd z9 (by decide))
    · --IAE
      refine g_catch (n := 24) (name := "java/lang/IllegalArgumentException") C [(⟨0, 17, 20, 26⟩ : ExceptionTableEntry)] (⟨0, 17, 24, 13⟩ : ExceptionTableEntry) [] (htab.trans (by rfl)) (by
        intro w hw
        simp only [List.mem_cons, List.not_mem_nil, or_false] at hw
        rcases hw with rfl
        exact ⟨by decide, "java/lang/IndexOutOfBoundsException", w_698, exc_ne C (by decide) (by decide) (by decide)⟩) (by decide) (by decide) w_417 t_424 rfl (fun q9 => ?_)
      refine g_astore (n := 26) C dL_wash_24 rfl (by decide) ?_
      refine g_iconst (n := 27) (v := 2) C dL_wash_26 rfl (by decide) ?_
      refine g_x ?_
      refine g_iret C dL_wash_27 (by decide) (by decide) ?_
      exact kp _ (w9.wo.imp fun _ _ z9 => absurd z9 (by decide))
theorem dL_fill_0 : decode cL_fill 0 = .ok (.aload_n 2, 1) := by decide +kernel
theorem dL_fill_1 : decode cL_fill 1 = .ok (.iconst 0, 1) := by decide +kernel
theorem dL_fill_2 : decode cL_fill 2 = .ok (.aload_n 0, 1) := by decide +kernel
theorem dL_fill_3 : decode cL_fill 3 = .ok (.iload_n 1, 1) := by decide +kernel
theorem dL_fill_4 : decode cL_fill 4 = .ok (.invokevirtual 34, 3) := by decide +kernel
theorem dL_fill_7 : decode cL_fill 7 = .ok (.ifCond .eq 7, 3) := by decide +kernel
theorem dL_fill_10 : decode cL_fill 10 = .ok (.lconst 1, 1) := by decide +kernel
theorem dL_fill_11 : decode cL_fill 11 = .ok (.goto 4, 3) := by decide +kernel
theorem dL_fill_14 : decode cL_fill 14 = .ok (.lconst 0, 1) := by decide +kernel
theorem dL_fill_15 : decode cL_fill 15 = .ok (.lastore, 1) := by decide +kernel
theorem dL_fill_16 : decode cL_fill 16 = .ok (.goto 6, 3) := by decide +kernel
theorem dL_fill_19 : decode cL_fill 19 = .ok (.astore_n 3, 1) := by decide +kernel
theorem dL_fill_20 : decode cL_fill 20 = .ok (.iconst 1, 1) := by decide +kernel
theorem dL_fill_21 : decode cL_fill 21 = .ok (.ireturn, 1) := by decide +kernel
theorem dL_fill_22 : decode cL_fill 22 = .ok (.iconst 0, 1) := by decide +kernel
theorem dL_fill_23 : decode cL_fill 23 = .ok (.ireturn, 1) := by decide +kernel
set_option maxHeartbeats 1000000 in
set_option maxRecDepth 20000 in
theorem lw_fill {l : Launch} {E : Ev} {x o ou n m n9 m9 : Nat} {F F9 : Nat → Int32} {A A9 : Nat → Nat → Int32} {Fm : Nat → Int32} {Am : Nat → Nat → Int32} {h : AH} {k v : Int32} (I9 : WI E x o ou F A n m Fm Am h) {p : Int32} (hM : Mx l E yX10_fill cX10_fill 2 (some .boolean) 7 111 4 24 [.ref x, .int p] h (fun v1 h1 => v1 = .int v ∧ k = 0 ∧ WI E x o ou F9 A9 n9 m9 Fm Am h1) (fun x1 h1 => ((x1 = "java/lang/IndexOutOfBoundsException" ∧ k = 1)) ∧ WI E x o ou F9 A9 n9 m9 Fm Am h1)) {P : Value → AH → Prop} (kp : ∀ h1, WO E x o ou F9 A9 n9 m9 Fm Am (fun O => k = 0 → O 0 = (if v = 0 then (0 : Int64) else 1)) h1 → P (.int k) h1) : MxW l E yL_fill cL_fill 4 (some .int) [(0, 16, 19, 26)] 12 330 4 24 [.ref x, .int p, .ref ou] h P := by
  refine MxW.of (by decide) (Nat.le_of_ble_eq_true rfl) ?_
  intro K hK hR htab C
  subst hK
  obtain ⟨vs9, hx9⟩ := I9.obj
  refine g_aload_n (n := 1) C dL_fill_0 rfl rfl ?_
  refine g_iconst (n := 2) (v := 0) C dL_fill_1 rfl (by decide) ?_
  refine g_aload_n (n := 3) C dL_fill_2 rfl rfl ?_
  refine g_iload_n (n := 4) C dL_fill_3 rfl rfl ?_
  refine g_callVx (n := 7) (As := [.int _]) C dL_fill_4 rfl mw_X10_fill w_860 (g_recv C hx9 rfl) rfl rfl (room hR rfl) (hM.mono (fun v1 h1 q9 => ?_) (fun x1 h1 q9 => ?_))
  · --returns
    obtain ⟨rfl, rfl, w9⟩ := q9
    obtain ⟨O9, ho9, hw9⟩ := w9.out
    refine g_if_eq (n := 10) (t := 14) C dL_fill_7 rfl (by decide) (fun zc7 => ?_) (fun zc7 => ?_)
    · --t7
      refine g_lconst (n := 15) (v := 0) C dL_fill_14 rfl (by decide) ?_
      refine g_last (n := 16) C dL_fill_15 rfl ho9 (by unfold vp_in; decide) ?_
      refine g_goto (t := 22) C dL_fill_16 (by decide) ?_
      refine g_iconst (n := 23) (v := 0) C dL_fill_22 rfl (by decide) ?_
      refine g_x ?_
      refine g_iret C dL_fill_23 (by decide) (by decide) ?_
      exact kp _ ((hw9 _).imp fun _ e9 _ => by rw [e9]; first | exact (if_pos rfl).trans (if_pos (by assumption)).symm | exact (if_pos rfl).trans (if_neg (by assumption)).symm)
    · --f7
      refine g_lconst (n := 11) (v := 1) C dL_fill_10 rfl (by decide) ?_
      refine g_goto (t := 15) C dL_fill_11 (by decide) ?_
      refine g_last (n := 16) C dL_fill_15 rfl ho9 (by unfold vp_in; decide) ?_
      refine g_goto (t := 22) C dL_fill_16 (by decide) ?_
      refine g_iconst (n := 23) (v := 0) C dL_fill_22 rfl (by decide) ?_
      refine g_x ?_
      refine g_iret C dL_fill_23 (by decide) (by decide) ?_
      exact kp _ ((hw9 _).imp fun _ e9 _ => by rw [e9]; first | exact (if_pos rfl).trans (if_pos (by assumption)).symm | exact (if_pos rfl).trans (if_neg (by assumption)).symm)
  · --throws
    obtain ⟨⟨rfl, rfl⟩, w9⟩ := q9
    refine g_catch (n := 19) (name := "java/lang/IndexOutOfBoundsException") C [] (⟨0, 16, 19, 26⟩ : ExceptionTableEntry) [] (htab.trans (by rfl)) (fun w hw => nomatch hw) (by decide) (by decide) w_698 t_709 rfl (fun q9 => ?_)
    refine g_astore_n (n := 20) C dL_fill_19 rfl (by decide) ?_
    refine g_iconst (n := 21) (v := 1) C dL_fill_20 rfl (by decide) ?_
    refine g_x ?_
    refine g_iret C dL_fill_21 (by decide) (by decide) ?_
    exact kp _ (w9.wo.imp fun _ _ z9 => absurd z9 (by decide))
theorem dL_look_0 : decode cL_look 0 = .ok (.aload_n 3, 1) := by decide +kernel
theorem dL_look_1 : decode cL_look 1 = .ok (.iconst 0, 1) := by decide +kernel
theorem dL_look_2 : decode cL_look 2 = .ok (.aload_n 0, 1) := by decide +kernel
theorem dL_look_3 : decode cL_look 3 = .ok (.iload_n 1, 1) := by decide +kernel
theorem dL_look_4 : decode cL_look 4 = .ok (.iload_n 2, 1) := by decide +kernel
theorem dL_look_5 : decode cL_look 5 = .ok (.invokevirtual 45, 3) := by decide +kernel
theorem dL_look_8 : decode cL_look 8 = .ok (.i2l, 1) := by decide +kernel
theorem dL_look_9 : decode cL_look 9 = .ok (.lastore, 1) := by decide +kernel
theorem dL_look_10 : decode cL_look 10 = .ok (.goto 11, 3) := by decide +kernel
theorem dL_look_13 : decode cL_look 13 = .ok (.astore 4, 2) := by decide +kernel
theorem dL_look_15 : decode cL_look 15 = .ok (.iconst 1, 1) := by decide +kernel
theorem dL_look_16 : decode cL_look 16 = .ok (.ireturn, 1) := by decide +kernel
theorem dL_look_17 : decode cL_look 17 = .ok (.astore 4, 2) := by decide +kernel
theorem dL_look_19 : decode cL_look 19 = .ok (.iconst 2, 1) := by decide +kernel
theorem dL_look_20 : decode cL_look 20 = .ok (.ireturn, 1) := by decide +kernel
theorem dL_look_21 : decode cL_look 21 = .ok (.iconst 0, 1) := by decide +kernel
theorem dL_look_22 : decode cL_look 22 = .ok (.ireturn, 1) := by decide +kernel
set_option maxHeartbeats 1000000 in
set_option maxRecDepth 20000 in
theorem lw_look {l : Launch} {E : Ev} {x o ou n m n9 m9 : Nat} {F F9 : Nat → Int32} {A A9 : Nat → Nat → Int32} {Fm : Nat → Int32} {Am : Nat → Nat → Int32} {h : AH} {k v : Int32} (I9 : WI E x o ou F A n m Fm Am h) {p w : Int32} (hM : Mx l E yX10_look cX10_look 4 (some .int) 7 111 4 24 [.ref x, .int p, .int w] h (fun v1 h1 => v1 = .int v ∧ k = 0 ∧ WI E x o ou F9 A9 n9 m9 Fm Am h1) (fun x1 h1 => ((x1 = "java/lang/IndexOutOfBoundsException" ∧ k = 1) ∨ (x1 = "java/util/NoSuchElementException" ∧ k = 2)) ∧ WI E x o ou F9 A9 n9 m9 Fm Am h1)) {P : Value → AH → Prop} (kp : ∀ h1, WO E x o ou F9 A9 n9 m9 Fm Am (fun O => k = 0 → O 0 = v.toInt64) h1 → P (.int k) h1) : MxW l E yL_look cL_look 5 (some .int) [(0, 10, 13, 26), (0, 10, 17, 49)] 12 330 4 24 [.ref x, .int p, .int w, .ref ou] h P := by
  refine MxW.of (by decide) (Nat.le_of_ble_eq_true rfl) ?_
  intro K hK hR htab C
  subst hK
  obtain ⟨vs9, hx9⟩ := I9.obj
  refine g_aload_n (n := 1) C dL_look_0 rfl rfl ?_
  refine g_iconst (n := 2) (v := 0) C dL_look_1 rfl (by decide) ?_
  refine g_aload_n (n := 3) C dL_look_2 rfl rfl ?_
  refine g_iload_n (n := 4) C dL_look_3 rfl rfl ?_
  refine g_iload_n (n := 5) C dL_look_4 rfl rfl ?_
  refine g_callVx (n := 8) (As := [.int _, .int _]) C dL_look_5 rfl mw_X10_look w_900 (g_recv C hx9 rfl) rfl rfl (room hR rfl) (hM.mono (fun v1 h1 q9 => ?_) (fun x1 h1 q9 => ?_))
  · --returns
    obtain ⟨rfl, rfl, w9⟩ := q9
    obtain ⟨O9, ho9, hw9⟩ := w9.out
    refine g_i2l (n := 9) C dL_look_8 rfl ?_
    refine g_last (n := 10) C dL_look_9 rfl ho9 (by unfold vp_in; decide) ?_
    refine g_goto (t := 21) C dL_look_10 (by decide) ?_
    refine g_iconst (n := 22) (v := 0) C dL_look_21 rfl (by decide) ?_
    refine g_x ?_
    refine g_iret C dL_look_22 (by decide) (by decide) ?_
    exact kp _ ((hw9 _).imp fun _ e9 _ => by rw [e9]; exact if_pos rfl)
  · --throws
    obtain ⟨(⟨rfl, rfl⟩ | ⟨rfl, rfl⟩), w9⟩ := q9
    · --IOOB
      refine g_catch (n := 13) (name := "java/lang/IndexOutOfBoundsException") C [] (⟨0, 10, 13, 26⟩ : ExceptionTableEntry) [(⟨0, 10, 17, 49⟩ : ExceptionTableEntry)] (htab.trans (by rfl)) (fun w hw => nomatch hw) (by decide) (by decide) w_698 t_709 rfl (fun q9 => ?_)
      refine g_astore (n := 15) C dL_look_13 rfl (by decide) ?_
      refine g_iconst (n := 16) (v := 1) C dL_look_15 rfl (by decide) ?_
      refine g_x ?_
      refine g_iret C dL_look_16 (by decide) (by decide) ?_
      exact kp _ (w9.wo.imp fun _ _ z9 => absurd z9 (by decide))
    · --NSE
      refine g_catch (n := 17) (name := "java/util/NoSuchElementException") C [(⟨0, 10, 13, 26⟩ : ExceptionTableEntry)] (⟨0, 10, 17, 49⟩ : ExceptionTableEntry) [] (htab.trans (by rfl)) (by
        intro w hw
        simp only [List.mem_cons, List.not_mem_nil, or_false] at hw
        rcases hw with rfl
        exact ⟨by decide, "java/lang/IndexOutOfBoundsException", w_698, exc_ne C (by decide) (by decide) (by decide)⟩) (by decide) (by decide) w_899 t_907 rfl (fun q9 => ?_)
      refine g_astore (n := 19) C dL_look_17 rfl (by decide) ?_
      refine g_iconst (n := 20) (v := 2) C dL_look_19 rfl (by decide) ?_
      refine g_x ?_
      refine g_iret C dL_look_20 (by decide) (by decide) ?_
      exact kp _ (w9.wo.imp fun _ _ z9 => absurd z9 (by decide))
theorem dL_stone_0 : decode cL_stone 0 = .ok (.aload_n 3, 1) := by decide +kernel
theorem dL_stone_1 : decode cL_stone 1 = .ok (.iconst 0, 1) := by decide +kernel
theorem dL_stone_2 : decode cL_stone 2 = .ok (.aload_n 0, 1) := by decide +kernel
theorem dL_stone_3 : decode cL_stone 3 = .ok (.iload_n 1, 1) := by decide +kernel
theorem dL_stone_4 : decode cL_stone 4 = .ok (.iload_n 2, 1) := by decide +kernel
theorem dL_stone_5 : decode cL_stone 5 = .ok (.invokevirtual 51, 3) := by decide +kernel
theorem dL_stone_8 : decode cL_stone 8 = .ok (.i2l, 1) := by decide +kernel
theorem dL_stone_9 : decode cL_stone 9 = .ok (.lastore, 1) := by decide +kernel
theorem dL_stone_10 : decode cL_stone 10 = .ok (.goto 19, 3) := by decide +kernel
theorem dL_stone_13 : decode cL_stone 13 = .ok (.astore 4, 2) := by decide +kernel
theorem dL_stone_15 : decode cL_stone 15 = .ok (.iconst 1, 1) := by decide +kernel
theorem dL_stone_16 : decode cL_stone 16 = .ok (.ireturn, 1) := by decide +kernel
theorem dL_stone_17 : decode cL_stone 17 = .ok (.astore 4, 2) := by decide +kernel
theorem dL_stone_19 : decode cL_stone 19 = .ok (.iconst 2, 1) := by decide +kernel
theorem dL_stone_20 : decode cL_stone 20 = .ok (.ireturn, 1) := by decide +kernel
theorem dL_stone_21 : decode cL_stone 21 = .ok (.astore 4, 2) := by decide +kernel
theorem dL_stone_23 : decode cL_stone 23 = .ok (.iconst 3, 1) := by decide +kernel
theorem dL_stone_24 : decode cL_stone 24 = .ok (.ireturn, 1) := by decide +kernel
theorem dL_stone_25 : decode cL_stone 25 = .ok (.astore 4, 2) := by decide +kernel
theorem dL_stone_27 : decode cL_stone 27 = .ok (.iconst 4, 1) := by decide +kernel
theorem dL_stone_28 : decode cL_stone 28 = .ok (.ireturn, 1) := by decide +kernel
theorem dL_stone_29 : decode cL_stone 29 = .ok (.iconst 0, 1) := by decide +kernel
theorem dL_stone_30 : decode cL_stone 30 = .ok (.ireturn, 1) := by decide +kernel
set_option maxHeartbeats 1000000 in
set_option maxRecDepth 20000 in
theorem lw_stone {l : Launch} {E : Ev} {x o ou n m n9 m9 : Nat} {F F9 : Nat → Int32} {A A9 : Nat → Nat → Int32} {Fm : Nat → Int32} {Am : Nat → Nat → Int32} {h : AH} {k v : Int32} (I9 : WI E x o ou F A n m Fm Am h) {p b : Int32} (hM : Mx l E yX10_stone cX10_stone 4 (some .int) 8 174 6 136 [.ref x, .int p, .int b] h (fun v1 h1 => v1 = .int v ∧ k = 0 ∧ WI E x o ou F9 A9 n9 m9 Fm Am h1) (fun x1 h1 => ((x1 = "java/lang/IndexOutOfBoundsException" ∧ k = 1) ∨ (x1 = "java/lang/IllegalArgumentException" ∧ k = 2) ∨ (x1 = "java/lang/IllegalStateException" ∧ k = 3) ∨ (x1 = "java/lang/UnsupportedOperationException" ∧ k = 4)) ∧ WI E x o ou F9 A9 n9 m9 Fm Am h1)) {P : Value → AH → Prop} (kp : ∀ h1, WO E x o ou F9 A9 n9 m9 Fm Am (fun O => k = 0 → O 0 = v.toInt64) h1 → P (.int k) h1) : MxW l E yL_stone cL_stone 5 (some .int) [(0, 10, 13, 26), (0, 10, 17, 13), (0, 10, 21, 54), (0, 10, 25, 28)] 12 330 6 136 [.ref x, .int p, .int b, .ref ou] h P := by
  refine MxW.of (by decide) (Nat.le_of_ble_eq_true rfl) ?_
  intro K hK hR htab C
  subst hK
  obtain ⟨vs9, hx9⟩ := I9.obj
  refine g_aload_n (n := 1) C dL_stone_0 rfl rfl ?_
  refine g_iconst (n := 2) (v := 0) C dL_stone_1 rfl (by decide) ?_
  refine g_aload_n (n := 3) C dL_stone_2 rfl rfl ?_
  refine g_iload_n (n := 4) C dL_stone_3 rfl rfl ?_
  refine g_iload_n (n := 5) C dL_stone_4 rfl rfl ?_
  refine g_callVx (n := 8) (As := [.int _, .int _]) C dL_stone_5 rfl mw_X10_stone w_925 (g_recv C hx9 rfl) rfl rfl (room hR rfl) (hM.mono (fun v1 h1 q9 => ?_) (fun x1 h1 q9 => ?_))
  · --returns
    obtain ⟨rfl, rfl, w9⟩ := q9
    obtain ⟨O9, ho9, hw9⟩ := w9.out
    refine g_i2l (n := 9) C dL_stone_8 rfl ?_
    refine g_last (n := 10) C dL_stone_9 rfl ho9 (by unfold vp_in; decide) ?_
    refine g_goto (t := 29) C dL_stone_10 (by decide) ?_
    refine g_iconst (n := 30) (v := 0) C dL_stone_29 rfl (by decide) ?_
    refine g_x ?_
    refine g_iret C dL_stone_30 (by decide) (by decide) ?_
    exact kp _ ((hw9 _).imp fun _ e9 _ => by rw [e9]; exact if_pos rfl)
  · --throws
    obtain ⟨(⟨rfl, rfl⟩ | ⟨rfl, rfl⟩ | ⟨rfl, rfl⟩ | ⟨rfl, rfl⟩), w9⟩ := q9
    · --IOOB
      refine g_catch (n := 13) (name := "java/lang/IndexOutOfBoundsException") C [] (⟨0, 10, 13, 26⟩ : ExceptionTableEntry) [(⟨0, 10, 17, 13⟩ : ExceptionTableEntry), (⟨0, 10, 21, 54⟩ : ExceptionTableEntry), (⟨0, 10, 25, 28⟩ : ExceptionTableEntry)] (htab.trans (by rfl)) (fun w hw => nomatch hw) (by decide) (by decide) w_698 t_709 rfl (fun q9 => ?_)
      refine g_astore (n := 15) C dL_stone_13 rfl (by decide) ?_
      refine g_iconst (n := 16) (v := 1) C dL_stone_15 rfl (by decide) ?_
      refine g_x ?_
      refine g_iret C dL_stone_16 (by decide) (by decide) ?_
      exact kp _ (w9.wo.imp fun _ _ z9 => absurd z9 (by decide))
    · --IAE
      refine g_catch (n := 17) (name := "java/lang/IllegalArgumentException") C [(⟨0, 10, 13, 26⟩ : ExceptionTableEntry)] (⟨0, 10, 17, 13⟩ : ExceptionTableEntry) [(⟨0, 10, 21, 54⟩ : ExceptionTableEntry), (⟨0, 10, 25, 28⟩ : ExceptionTableEntry)] (htab.trans (by rfl)) (by
        intro w hw
        simp only [List.mem_cons, List.not_mem_nil, or_false] at hw
        rcases hw with rfl
        exact ⟨by decide, "java/lang/IndexOutOfBoundsException", w_698, exc_ne C (by decide) (by decide) (by decide)⟩) (by decide) (by decide) w_417 t_424 rfl (fun q9 => ?_)
      refine g_astore (n := 19) C dL_stone_17 rfl (by decide) ?_
      refine g_iconst (n := 20) (v := 2) C dL_stone_19 rfl (by decide) ?_
      refine g_x ?_
      refine g_iret C dL_stone_20 (by decide) (by decide) ?_
      exact kp _ (w9.wo.imp fun _ _ z9 => absurd z9 (by decide))
    · --ISE
      refine g_catch (n := 21) (name := "java/lang/IllegalStateException") C [(⟨0, 10, 13, 26⟩ : ExceptionTableEntry), (⟨0, 10, 17, 13⟩ : ExceptionTableEntry)] (⟨0, 10, 21, 54⟩ : ExceptionTableEntry) [(⟨0, 10, 25, 28⟩ : ExceptionTableEntry)] (htab.trans (by rfl)) (by
        intro w hw
        simp only [List.mem_cons, List.not_mem_nil, or_false] at hw
        rcases hw with rfl | rfl
        · exact ⟨by decide, "java/lang/IndexOutOfBoundsException", w_698, exc_ne C (by decide) (by decide) (by decide)⟩
        · exact ⟨by decide, "java/lang/IllegalArgumentException", w_417, exc_ne C (by decide) (by decide) (by decide)⟩) (by decide) (by decide) w_924 t_932 rfl (fun q9 => ?_)
      refine g_astore (n := 23) C dL_stone_21 rfl (by decide) ?_
      refine g_iconst (n := 24) (v := 3) C dL_stone_23 rfl (by decide) ?_
      refine g_x ?_
      refine g_iret C dL_stone_24 (by decide) (by decide) ?_
      exact kp _ (w9.wo.imp fun _ _ z9 => absurd z9 (by decide))
    · --UOE
      refine g_catch (n := 25) (name := "java/lang/UnsupportedOperationException") C [(⟨0, 10, 13, 26⟩ : ExceptionTableEntry), (⟨0, 10, 17, 13⟩ : ExceptionTableEntry), (⟨0, 10, 21, 54⟩ : ExceptionTableEntry)] (⟨0, 10, 25, 28⟩ : ExceptionTableEntry) [] (htab.trans (by rfl)) (by
        intro w hw
        simp only [List.mem_cons, List.not_mem_nil, or_false] at hw
        rcases hw with rfl | rfl | rfl
        · exact ⟨by decide, "java/lang/IndexOutOfBoundsException", w_698, exc_ne C (by decide) (by decide) (by decide)⟩
        · exact ⟨by decide, "java/lang/IllegalArgumentException", w_417, exc_ne C (by decide) (by decide) (by decide)⟩
        · exact ⟨by decide, "java/lang/IllegalStateException", w_924, exc_ne C (by decide) (by decide) (by decide)⟩) (by decide) (by decide) w_699 t_725 rfl (fun q9 => ?_)
      refine g_astore (n := 27) C dL_stone_25 rfl (by decide) ?_
      refine g_iconst (n := 28) (v := 4) C dL_stone_27 rfl (by decide) ?_
      refine g_x ?_
      refine g_iret C dL_stone_28 (by decide) (by decide) ?_
      exact kp _ (w9.wo.imp fun _ _ z9 => absurd z9 (by decide))
theorem dL_hand_0 : decode cL_hand 0 = .ok (.aload 4, 2) := by decide +kernel
theorem dL_hand_2 : decode cL_hand 2 = .ok (.iconst 0, 1) := by decide +kernel
theorem dL_hand_3 : decode cL_hand 3 = .ok (.aload_n 0, 1) := by decide +kernel
theorem dL_hand_4 : decode cL_hand 4 = .ok (.iload_n 1, 1) := by decide +kernel
theorem dL_hand_5 : decode cL_hand 5 = .ok (.iload_n 2, 1) := by decide +kernel
theorem dL_hand_6 : decode cL_hand 6 = .ok (.iload_n 3, 1) := by decide +kernel
theorem dL_hand_7 : decode cL_hand 7 = .ok (.invokevirtual 59, 3) := by decide +kernel
theorem dL_hand_10 : decode cL_hand 10 = .ok (.ifCond .eq 7, 3) := by decide +kernel
theorem dL_hand_13 : decode cL_hand 13 = .ok (.lconst 1, 1) := by decide +kernel
theorem dL_hand_14 : decode cL_hand 14 = .ok (.goto 4, 3) := by decide +kernel
theorem dL_hand_17 : decode cL_hand 17 = .ok (.lconst 0, 1) := by decide +kernel
theorem dL_hand_18 : decode cL_hand 18 = .ok (.lastore, 1) := by decide +kernel
theorem dL_hand_19 : decode cL_hand 19 = .ok (.goto 11, 3) := by decide +kernel
theorem dL_hand_22 : decode cL_hand 22 = .ok (.astore 5, 2) := by decide +kernel
theorem dL_hand_24 : decode cL_hand 24 = .ok (.iconst 1, 1) := by decide +kernel
theorem dL_hand_25 : decode cL_hand 25 = .ok (.ireturn, 1) := by decide +kernel
theorem dL_hand_26 : decode cL_hand 26 = .ok (.astore 5, 2) := by decide +kernel
theorem dL_hand_28 : decode cL_hand 28 = .ok (.iconst 2, 1) := by decide +kernel
theorem dL_hand_29 : decode cL_hand 29 = .ok (.ireturn, 1) := by decide +kernel
theorem dL_hand_30 : decode cL_hand 30 = .ok (.iconst 0, 1) := by decide +kernel
theorem dL_hand_31 : decode cL_hand 31 = .ok (.ireturn, 1) := by decide +kernel
set_option maxHeartbeats 1000000 in
set_option maxRecDepth 20000 in
theorem lw_hand {l : Launch} {E : Ev} {x o ou n m n9 m9 : Nat} {F F9 : Nat → Int32} {A A9 : Nat → Nat → Int32} {Fm : Nat → Int32} {Am : Nat → Nat → Int32} {h : AH} {k v : Int32} (I9 : WI E x o ou F A n m Fm Am h) {s b x9 : Int32} (hM : Mx l E yX10_hand cX10_hand 5 (some .boolean) 7 111 4 24 [.ref x, .int s, .int b, .int x9] h (fun v1 h1 => v1 = .int v ∧ k = 0 ∧ WI E x o ou F9 A9 n9 m9 Fm Am h1) (fun x1 h1 => ((x1 = "java/lang/IndexOutOfBoundsException" ∧ k = 1) ∨ (x1 = "java/lang/IllegalArgumentException" ∧ k = 2)) ∧ WI E x o ou F9 A9 n9 m9 Fm Am h1)) {P : Value → AH → Prop} (kp : ∀ h1, WO E x o ou F9 A9 n9 m9 Fm Am (fun O => k = 0 → O 0 = (if v = 0 then (0 : Int64) else 1)) h1 → P (.int k) h1) : MxW l E yL_hand cL_hand 6 (some .int) [(0, 19, 22, 26), (0, 19, 26, 13)] 12 330 4 24 [.ref x, .int s, .int b, .int x9, .ref ou] h P := by
  refine MxW.of (by decide) (Nat.le_of_ble_eq_true rfl) ?_
  intro K hK hR htab C
  subst hK
  obtain ⟨vs9, hx9⟩ := I9.obj
  refine g_aload (n := 2) C dL_hand_0 rfl rfl ?_
  refine g_iconst (n := 3) (v := 0) C dL_hand_2 rfl (by decide) ?_
  refine g_aload_n (n := 4) C dL_hand_3 rfl rfl ?_
  refine g_iload_n (n := 5) C dL_hand_4 rfl rfl ?_
  refine g_iload_n (n := 6) C dL_hand_5 rfl rfl ?_
  refine g_iload_n (n := 7) C dL_hand_6 rfl rfl ?_
  refine g_callVx (n := 10) (As := [.int _, .int _, .int _]) C dL_hand_7 rfl mw_X10_hand w_1004 (g_recv C hx9 rfl) rfl rfl (room hR rfl) (hM.mono (fun v1 h1 q9 => ?_) (fun x1 h1 q9 => ?_))
  · --returns
    obtain ⟨rfl, rfl, w9⟩ := q9
    obtain ⟨O9, ho9, hw9⟩ := w9.out
    refine g_if_eq (n := 13) (t := 17) C dL_hand_10 rfl (by decide) (fun zc10 => ?_) (fun zc10 => ?_)
    · --t10
      refine g_lconst (n := 18) (v := 0) C dL_hand_17 rfl (by decide) ?_
      refine g_last (n := 19) C dL_hand_18 rfl ho9 (by unfold vp_in; decide) ?_
      refine g_goto (t := 30) C dL_hand_19 (by decide) ?_
      refine g_iconst (n := 31) (v := 0) C dL_hand_30 rfl (by decide) ?_
      refine g_x ?_
      refine g_iret C dL_hand_31 (by decide) (by decide) ?_
      exact kp _ ((hw9 _).imp fun _ e9 _ => by rw [e9]; first | exact (if_pos rfl).trans (if_pos (by assumption)).symm | exact (if_pos rfl).trans (if_neg (by assumption)).symm)
    · --f10
      refine g_lconst (n := 14) (v := 1) C dL_hand_13 rfl (by decide) ?_
      refine g_goto (t := 18) C dL_hand_14 (by decide) ?_
      refine g_last (n := 19) C dL_hand_18 rfl ho9 (by unfold vp_in; decide) ?_
      refine g_goto (t := 30) C dL_hand_19 (by decide) ?_
      refine g_iconst (n := 31) (v := 0) C dL_hand_30 rfl (by decide) ?_
      refine g_x ?_
      refine g_iret C dL_hand_31 (by decide) (by decide) ?_
      exact kp _ ((hw9 _).imp fun _ e9 _ => by rw [e9]; first | exact (if_pos rfl).trans (if_pos (by assumption)).symm | exact (if_pos rfl).trans (if_neg (by assumption)).symm)
  · --throws
    obtain ⟨(⟨rfl, rfl⟩ | ⟨rfl, rfl⟩), w9⟩ := q9
    · --IOOB
      refine g_catch (n := 22) (name := "java/lang/IndexOutOfBoundsException") C [] (⟨0, 19, 22, 26⟩ : ExceptionTableEntry) [(⟨0, 19, 26, 13⟩ : ExceptionTableEntry)] (htab.trans (by rfl)) (fun w hw => nomatch hw) (by decide) (by decide) w_698 t_709 rfl (fun q9 => ?_)
      refine g_astore (n := 24) C dL_hand_22 rfl (by decide) ?_
      refine g_iconst (n := 25) (v := 1) C dL_hand_24 rfl (by decide) ?_
      refine g_x ?_
      refine g_iret C dL_hand_25 (by decide) (by decide) ?_
      exact kp _ (w9.wo.imp fun _ _ z9 => absurd z9 (by decide))
    · --IAE
      refine g_catch (n := 26) (name := "java/lang/IllegalArgumentException") C [(⟨0, 19, 22, 26⟩ : ExceptionTableEntry)] (⟨0, 19, 26, 13⟩ : ExceptionTableEntry) [] (htab.trans (by rfl)) (by
        intro w hw
        simp only [List.mem_cons, List.not_mem_nil, or_false] at hw
        rcases hw with rfl
        exact ⟨by decide, "java/lang/IndexOutOfBoundsException", w_698, exc_ne C (by decide) (by decide) (by decide)⟩) (by decide) (by decide) w_417 t_424 rfl (fun q9 => ?_)
      refine g_astore (n := 28) C dL_hand_26 rfl (by decide) ?_
      refine g_iconst (n := 29) (v := 2) C dL_hand_28 rfl (by decide) ?_
      refine g_x ?_
      refine g_iret C dL_hand_29 (by decide) (by decide) ?_
      exact kp _ (w9.wo.imp fun _ _ z9 => absurd z9 (by decide))
theorem dL_part_0 : decode cL_part 0 = .ok (.aload_n 3, 1) := by decide +kernel
theorem dL_part_1 : decode cL_part 1 = .ok (.iconst 0, 1) := by decide +kernel
theorem dL_part_2 : decode cL_part 2 = .ok (.aload_n 0, 1) := by decide +kernel
theorem dL_part_3 : decode cL_part 3 = .ok (.iload_n 1, 1) := by decide +kernel
theorem dL_part_4 : decode cL_part 4 = .ok (.iload_n 2, 1) := by decide +kernel
theorem dL_part_5 : decode cL_part 5 = .ok (.invokevirtual 66, 3) := by decide +kernel
theorem dL_part_8 : decode cL_part 8 = .ok (.i2l, 1) := by decide +kernel
theorem dL_part_9 : decode cL_part 9 = .ok (.lastore, 1) := by decide +kernel
theorem dL_part_10 : decode cL_part 10 = .ok (.goto 11, 3) := by decide +kernel
theorem dL_part_13 : decode cL_part 13 = .ok (.astore 4, 2) := by decide +kernel
theorem dL_part_15 : decode cL_part 15 = .ok (.iconst 1, 1) := by decide +kernel
theorem dL_part_16 : decode cL_part 16 = .ok (.ireturn, 1) := by decide +kernel
theorem dL_part_17 : decode cL_part 17 = .ok (.astore 4, 2) := by decide +kernel
theorem dL_part_19 : decode cL_part 19 = .ok (.iconst 2, 1) := by decide +kernel
theorem dL_part_20 : decode cL_part 20 = .ok (.ireturn, 1) := by decide +kernel
theorem dL_part_21 : decode cL_part 21 = .ok (.iconst 0, 1) := by decide +kernel
theorem dL_part_22 : decode cL_part 22 = .ok (.ireturn, 1) := by decide +kernel
set_option maxHeartbeats 1000000 in
set_option maxRecDepth 20000 in
theorem lw_part {l : Launch} {E : Ev} {x o ou n m n9 m9 : Nat} {F F9 : Nat → Int32} {A A9 : Nat → Nat → Int32} {Fm : Nat → Int32} {Am : Nat → Nat → Int32} {h : AH} {k v : Int32} (I9 : WI E x o ou F A n m Fm Am h) {s w : Int32} (hM : Mx l E yX10_part cX10_part 4 (some .int) 7 111 4 24 [.ref x, .int s, .int w] h (fun v1 h1 => v1 = .int v ∧ k = 0 ∧ WI E x o ou F9 A9 n9 m9 Fm Am h1) (fun x1 h1 => ((x1 = "java/lang/IndexOutOfBoundsException" ∧ k = 1) ∨ (x1 = "java/util/NoSuchElementException" ∧ k = 2)) ∧ WI E x o ou F9 A9 n9 m9 Fm Am h1)) {P : Value → AH → Prop} (kp : ∀ h1, WO E x o ou F9 A9 n9 m9 Fm Am (fun O => k = 0 → O 0 = v.toInt64) h1 → P (.int k) h1) : MxW l E yL_part cL_part 5 (some .int) [(0, 10, 13, 26), (0, 10, 17, 49)] 12 330 4 24 [.ref x, .int s, .int w, .ref ou] h P := by
  refine MxW.of (by decide) (Nat.le_of_ble_eq_true rfl) ?_
  intro K hK hR htab C
  subst hK
  obtain ⟨vs9, hx9⟩ := I9.obj
  refine g_aload_n (n := 1) C dL_part_0 rfl rfl ?_
  refine g_iconst (n := 2) (v := 0) C dL_part_1 rfl (by decide) ?_
  refine g_aload_n (n := 3) C dL_part_2 rfl rfl ?_
  refine g_iload_n (n := 4) C dL_part_3 rfl rfl ?_
  refine g_iload_n (n := 5) C dL_part_4 rfl rfl ?_
  refine g_callVx (n := 8) (As := [.int _, .int _]) C dL_part_5 rfl mw_X10_part w_1061 (g_recv C hx9 rfl) rfl rfl (room hR rfl) (hM.mono (fun v1 h1 q9 => ?_) (fun x1 h1 q9 => ?_))
  · --returns
    obtain ⟨rfl, rfl, w9⟩ := q9
    obtain ⟨O9, ho9, hw9⟩ := w9.out
    refine g_i2l (n := 9) C dL_part_8 rfl ?_
    refine g_last (n := 10) C dL_part_9 rfl ho9 (by unfold vp_in; decide) ?_
    refine g_goto (t := 21) C dL_part_10 (by decide) ?_
    refine g_iconst (n := 22) (v := 0) C dL_part_21 rfl (by decide) ?_
    refine g_x ?_
    refine g_iret C dL_part_22 (by decide) (by decide) ?_
    exact kp _ ((hw9 _).imp fun _ e9 _ => by rw [e9]; exact if_pos rfl)
  · --throws
    obtain ⟨(⟨rfl, rfl⟩ | ⟨rfl, rfl⟩), w9⟩ := q9
    · --IOOB
      refine g_catch (n := 13) (name := "java/lang/IndexOutOfBoundsException") C [] (⟨0, 10, 13, 26⟩ : ExceptionTableEntry) [(⟨0, 10, 17, 49⟩ : ExceptionTableEntry)] (htab.trans (by rfl)) (fun w hw => nomatch hw) (by decide) (by decide) w_698 t_709 rfl (fun q9 => ?_)
      refine g_astore (n := 15) C dL_part_13 rfl (by decide) ?_
      refine g_iconst (n := 16) (v := 1) C dL_part_15 rfl (by decide) ?_
      refine g_x ?_
      refine g_iret C dL_part_16 (by decide) (by decide) ?_
      exact kp _ (w9.wo.imp fun _ _ z9 => absurd z9 (by decide))
    · --NSE
      refine g_catch (n := 17) (name := "java/util/NoSuchElementException") C [(⟨0, 10, 13, 26⟩ : ExceptionTableEntry)] (⟨0, 10, 17, 49⟩ : ExceptionTableEntry) [] (htab.trans (by rfl)) (by
        intro w hw
        simp only [List.mem_cons, List.not_mem_nil, or_false] at hw
        rcases hw with rfl
        exact ⟨by decide, "java/lang/IndexOutOfBoundsException", w_698, exc_ne C (by decide) (by decide) (by decide)⟩) (by decide) (by decide) w_899 t_907 rfl (fun q9 => ?_)
      refine g_astore (n := 19) C dL_part_17 rfl (by decide) ?_
      refine g_iconst (n := 20) (v := 2) C dL_part_19 rfl (by decide) ?_
      refine g_x ?_
      refine g_iret C dL_part_20 (by decide) (by decide) ?_
      exact kp _ (w9.wo.imp fun _ _ z9 => absurd z9 (by decide))
theorem dL_sell_0 : decode cL_sell 0 = .ok (.aload_n 3, 1) := by decide +kernel
theorem dL_sell_1 : decode cL_sell 1 = .ok (.iconst 0, 1) := by decide +kernel
theorem dL_sell_2 : decode cL_sell 2 = .ok (.aload_n 0, 1) := by decide +kernel
theorem dL_sell_3 : decode cL_sell 3 = .ok (.iload_n 1, 1) := by decide +kernel
theorem dL_sell_4 : decode cL_sell 4 = .ok (.iload_n 2, 1) := by decide +kernel
theorem dL_sell_5 : decode cL_sell 5 = .ok (.invokevirtual 63, 3) := by decide +kernel
theorem dL_sell_8 : decode cL_sell 8 = .ok (.i2l, 1) := by decide +kernel
theorem dL_sell_9 : decode cL_sell 9 = .ok (.lastore, 1) := by decide +kernel
theorem dL_sell_10 : decode cL_sell 10 = .ok (.goto 11, 3) := by decide +kernel
theorem dL_sell_13 : decode cL_sell 13 = .ok (.astore 4, 2) := by decide +kernel
theorem dL_sell_15 : decode cL_sell 15 = .ok (.iconst 1, 1) := by decide +kernel
theorem dL_sell_16 : decode cL_sell 16 = .ok (.ireturn, 1) := by decide +kernel
theorem dL_sell_17 : decode cL_sell 17 = .ok (.astore 4, 2) := by decide +kernel
theorem dL_sell_19 : decode cL_sell 19 = .ok (.iconst 2, 1) := by decide +kernel
theorem dL_sell_20 : decode cL_sell 20 = .ok (.ireturn, 1) := by decide +kernel
theorem dL_sell_21 : decode cL_sell 21 = .ok (.iconst 0, 1) := by decide +kernel
theorem dL_sell_22 : decode cL_sell 22 = .ok (.ireturn, 1) := by decide +kernel
set_option maxHeartbeats 1000000 in
set_option maxRecDepth 20000 in
theorem lw_sell {l : Launch} {E : Ev} {x o ou n m n9 m9 : Nat} {F F9 : Nat → Int32} {A A9 : Nat → Nat → Int32} {Fm : Nat → Int32} {Am : Nat → Nat → Int32} {h : AH} {k v : Int32} (I9 : WI E x o ou F A n m Fm Am h) {s lim : Int32} (hM : Mx l E yX10_sell cX10_sell 5 (some .int) 7 111 4 24 [.ref x, .int s, .int lim] h (fun v1 h1 => v1 = .int v ∧ k = 0 ∧ WI E x o ou F9 A9 n9 m9 Fm Am h1) (fun x1 h1 => ((x1 = "java/lang/IndexOutOfBoundsException" ∧ k = 1) ∨ (x1 = "java/lang/IllegalArgumentException" ∧ k = 2)) ∧ WI E x o ou F9 A9 n9 m9 Fm Am h1)) {P : Value → AH → Prop} (kp : ∀ h1, WO E x o ou F9 A9 n9 m9 Fm Am (fun O => k = 0 → O 0 = v.toInt64) h1 → P (.int k) h1) : MxW l E yL_sell cL_sell 5 (some .int) [(0, 10, 13, 26), (0, 10, 17, 13)] 12 330 4 24 [.ref x, .int s, .int lim, .ref ou] h P := by
  refine MxW.of (by decide) (Nat.le_of_ble_eq_true rfl) ?_
  intro K hK hR htab C
  subst hK
  obtain ⟨vs9, hx9⟩ := I9.obj
  refine g_aload_n (n := 1) C dL_sell_0 rfl rfl ?_
  refine g_iconst (n := 2) (v := 0) C dL_sell_1 rfl (by decide) ?_
  refine g_aload_n (n := 3) C dL_sell_2 rfl rfl ?_
  refine g_iload_n (n := 4) C dL_sell_3 rfl rfl ?_
  refine g_iload_n (n := 5) C dL_sell_4 rfl rfl ?_
  refine g_callVx (n := 8) (As := [.int _, .int _]) C dL_sell_5 rfl mw_X10_sell w_1035 (g_recv C hx9 rfl) rfl rfl (room hR rfl) (hM.mono (fun v1 h1 q9 => ?_) (fun x1 h1 q9 => ?_))
  · --returns
    obtain ⟨rfl, rfl, w9⟩ := q9
    obtain ⟨O9, ho9, hw9⟩ := w9.out
    refine g_i2l (n := 9) C dL_sell_8 rfl ?_
    refine g_last (n := 10) C dL_sell_9 rfl ho9 (by unfold vp_in; decide) ?_
    refine g_goto (t := 21) C dL_sell_10 (by decide) ?_
    refine g_iconst (n := 22) (v := 0) C dL_sell_21 rfl (by decide) ?_
    refine g_x ?_
    refine g_iret C dL_sell_22 (by decide) (by decide) ?_
    exact kp _ ((hw9 _).imp fun _ e9 _ => by rw [e9]; exact if_pos rfl)
  · --throws
    obtain ⟨(⟨rfl, rfl⟩ | ⟨rfl, rfl⟩), w9⟩ := q9
    · --IOOB
      refine g_catch (n := 13) (name := "java/lang/IndexOutOfBoundsException") C [] (⟨0, 10, 13, 26⟩ : ExceptionTableEntry) [(⟨0, 10, 17, 13⟩ : ExceptionTableEntry)] (htab.trans (by rfl)) (fun w hw => nomatch hw) (by decide) (by decide) w_698 t_709 rfl (fun q9 => ?_)
      refine g_astore (n := 15) C dL_sell_13 rfl (by decide) ?_
      refine g_iconst (n := 16) (v := 1) C dL_sell_15 rfl (by decide) ?_
      refine g_x ?_
      refine g_iret C dL_sell_16 (by decide) (by decide) ?_
      exact kp _ (w9.wo.imp fun _ _ z9 => absurd z9 (by decide))
    · --IAE
      refine g_catch (n := 17) (name := "java/lang/IllegalArgumentException") C [(⟨0, 10, 13, 26⟩ : ExceptionTableEntry)] (⟨0, 10, 17, 13⟩ : ExceptionTableEntry) [] (htab.trans (by rfl)) (by
        intro w hw
        simp only [List.mem_cons, List.not_mem_nil, or_false] at hw
        rcases hw with rfl
        exact ⟨by decide, "java/lang/IndexOutOfBoundsException", w_698, exc_ne C (by decide) (by decide) (by decide)⟩) (by decide) (by decide) w_417 t_424 rfl (fun q9 => ?_)
      refine g_astore (n := 19) C dL_sell_17 rfl (by decide) ?_
      refine g_iconst (n := 20) (v := 2) C dL_sell_19 rfl (by decide) ?_
      refine g_x ?_
      refine g_iret C dL_sell_20 (by decide) (by decide) ?_
      exact kp _ (w9.wo.imp fun _ _ z9 => absurd z9 (by decide))
theorem dL_flaw_0 : decode cL_flaw 0 = .ok (.aload 4, 2) := by decide +kernel
theorem dL_flaw_2 : decode cL_flaw 2 = .ok (.iconst 0, 1) := by decide +kernel
theorem dL_flaw_3 : decode cL_flaw 3 = .ok (.aload_n 0, 1) := by decide +kernel
theorem dL_flaw_4 : decode cL_flaw 4 = .ok (.iload_n 1, 1) := by decide +kernel
theorem dL_flaw_5 : decode cL_flaw 5 = .ok (.iload_n 2, 1) := by decide +kernel
theorem dL_flaw_6 : decode cL_flaw 6 = .ok (.iload_n 3, 1) := by decide +kernel
theorem dL_flaw_7 : decode cL_flaw 7 = .ok (.invokevirtual 73, 3) := by decide +kernel
theorem dL_flaw_10 : decode cL_flaw 10 = .ok (.ifCond .eq 7, 3) := by decide +kernel
theorem dL_flaw_13 : decode cL_flaw 13 = .ok (.lconst 1, 1) := by decide +kernel
theorem dL_flaw_14 : decode cL_flaw 14 = .ok (.goto 4, 3) := by decide +kernel
theorem dL_flaw_17 : decode cL_flaw 17 = .ok (.lconst 0, 1) := by decide +kernel
theorem dL_flaw_18 : decode cL_flaw 18 = .ok (.lastore, 1) := by decide +kernel
theorem dL_flaw_19 : decode cL_flaw 19 = .ok (.goto 7, 3) := by decide +kernel
theorem dL_flaw_22 : decode cL_flaw 22 = .ok (.astore 5, 2) := by decide +kernel
theorem dL_flaw_24 : decode cL_flaw 24 = .ok (.iconst 1, 1) := by decide +kernel
theorem dL_flaw_25 : decode cL_flaw 25 = .ok (.ireturn, 1) := by decide +kernel
theorem dL_flaw_26 : decode cL_flaw 26 = .ok (.iconst 0, 1) := by decide +kernel
theorem dL_flaw_27 : decode cL_flaw 27 = .ok (.ireturn, 1) := by decide +kernel
set_option maxHeartbeats 1000000 in
set_option maxRecDepth 20000 in
theorem lw_flaw {l : Launch} {E : Ev} {x o ou n m n9 m9 : Nat} {F F9 : Nat → Int32} {A A9 : Nat → Nat → Int32} {Fm : Nat → Int32} {Am : Nat → Nat → Int32} {h : AH} {k v : Int32} (I9 : WI E x o ou F A n m Fm Am h) {a b v9 : Int32} (hM : Mx l E yX10_flaw cX10_flaw 4 (some .boolean) 6 90 4 24 [.ref x, .int a, .int b, .int v9] h (fun v1 h1 => v1 = .int v ∧ k = 0 ∧ WI E x o ou F9 A9 n9 m9 Fm Am h1) (fun x1 h1 => ((x1 = "java/lang/IndexOutOfBoundsException" ∧ k = 1)) ∧ WI E x o ou F9 A9 n9 m9 Fm Am h1)) {P : Value → AH → Prop} (kp : ∀ h1, WO E x o ou F9 A9 n9 m9 Fm Am (fun O => k = 0 → O 0 = (if v = 0 then (0 : Int64) else 1)) h1 → P (.int k) h1) : MxW l E yL_flaw cL_flaw 6 (some .int) [(0, 19, 22, 26)] 12 330 4 24 [.ref x, .int a, .int b, .int v9, .ref ou] h P := by
  refine MxW.of (by decide) (Nat.le_of_ble_eq_true rfl) ?_
  intro K hK hR htab C
  subst hK
  obtain ⟨vs9, hx9⟩ := I9.obj
  refine g_aload (n := 2) C dL_flaw_0 rfl rfl ?_
  refine g_iconst (n := 3) (v := 0) C dL_flaw_2 rfl (by decide) ?_
  refine g_aload_n (n := 4) C dL_flaw_3 rfl rfl ?_
  refine g_iload_n (n := 5) C dL_flaw_4 rfl rfl ?_
  refine g_iload_n (n := 6) C dL_flaw_5 rfl rfl ?_
  refine g_iload_n (n := 7) C dL_flaw_6 rfl rfl ?_
  refine g_callVx (n := 10) (As := [.int _, .int _, .int _]) C dL_flaw_7 rfl mw_X10_flaw w_1081 (g_recv C hx9 rfl) rfl rfl (room hR rfl) (hM.mono (fun v1 h1 q9 => ?_) (fun x1 h1 q9 => ?_))
  · --returns
    obtain ⟨rfl, rfl, w9⟩ := q9
    obtain ⟨O9, ho9, hw9⟩ := w9.out
    refine g_if_eq (n := 13) (t := 17) C dL_flaw_10 rfl (by decide) (fun zc10 => ?_) (fun zc10 => ?_)
    · --t10
      refine g_lconst (n := 18) (v := 0) C dL_flaw_17 rfl (by decide) ?_
      refine g_last (n := 19) C dL_flaw_18 rfl ho9 (by unfold vp_in; decide) ?_
      refine g_goto (t := 26) C dL_flaw_19 (by decide) ?_
      refine g_iconst (n := 27) (v := 0) C dL_flaw_26 rfl (by decide) ?_
      refine g_x ?_
      refine g_iret C dL_flaw_27 (by decide) (by decide) ?_
      exact kp _ ((hw9 _).imp fun _ e9 _ => by rw [e9]; first | exact (if_pos rfl).trans (if_pos (by assumption)).symm | exact (if_pos rfl).trans (if_neg (by assumption)).symm)
    · --f10
      refine g_lconst (n := 14) (v := 1) C dL_flaw_13 rfl (by decide) ?_
      refine g_goto (t := 18) C dL_flaw_14 (by decide) ?_
      refine g_last (n := 19) C dL_flaw_18 rfl ho9 (by unfold vp_in; decide) ?_
      refine g_goto (t := 26) C dL_flaw_19 (by decide) ?_
      refine g_iconst (n := 27) (v := 0) C dL_flaw_26 rfl (by decide) ?_
      refine g_x ?_
      refine g_iret C dL_flaw_27 (by decide) (by decide) ?_
      exact kp _ ((hw9 _).imp fun _ e9 _ => by rw [e9]; first | exact (if_pos rfl).trans (if_pos (by assumption)).symm | exact (if_pos rfl).trans (if_neg (by assumption)).symm)
  · --throws
    obtain ⟨⟨rfl, rfl⟩, w9⟩ := q9
    refine g_catch (n := 22) (name := "java/lang/IndexOutOfBoundsException") C [] (⟨0, 19, 22, 26⟩ : ExceptionTableEntry) [] (htab.trans (by rfl)) (fun w hw => nomatch hw) (by decide) (by decide) w_698 t_709 rfl (fun q9 => ?_)
    refine g_astore (n := 24) C dL_flaw_22 rfl (by decide) ?_
    refine g_iconst (n := 25) (v := 1) C dL_flaw_24 rfl (by decide) ?_
    refine g_x ?_
    refine g_iret C dL_flaw_25 (by decide) (by decide) ?_
    exact kp _ (w9.wo.imp fun _ _ z9 => absurd z9 (by decide))
theorem dL_law_0 : decode cL_law 0 = .ok (.aload_n 1, 1) := by decide +kernel
theorem dL_law_1 : decode cL_law 1 = .ok (.iconst 0, 1) := by decide +kernel
theorem dL_law_2 : decode cL_law 2 = .ok (.aload_n 0, 1) := by decide +kernel
theorem dL_law_3 : decode cL_law 3 = .ok (.invokevirtual 15, 3) := by decide +kernel
theorem dL_law_6 : decode cL_law 6 = .ok (.i2l, 1) := by decide +kernel
theorem dL_law_7 : decode cL_law 7 = .ok (.lastore, 1) := by decide +kernel
theorem dL_law_8 : decode cL_law 8 = .ok (.goto 6, 3) := by decide +kernel
theorem dL_law_11 : decode cL_law 11 = .ok (.astore_n 2, 1) := by decide +kernel
theorem dL_law_12 : decode cL_law 12 = .ok (.iconst 1, 1) := by decide +kernel
theorem dL_law_13 : decode cL_law 13 = .ok (.ireturn, 1) := by decide +kernel
theorem dL_law_14 : decode cL_law 14 = .ok (.iconst 0, 1) := by decide +kernel
theorem dL_law_15 : decode cL_law 15 = .ok (.ireturn, 1) := by decide +kernel
set_option maxHeartbeats 1000000 in
set_option maxRecDepth 20000 in
theorem lw_law {l : Launch} {E : Ev} {x o ou n m n9 m9 : Nat} {F F9 : Nat → Int32} {A A9 : Nat → Nat → Int32} {Fm : Nat → Int32} {Am : Nat → Nat → Int32} {h : AH} {k v : Int32} (I9 : WI E x o ou F A n m Fm Am h)  (hM : Mx l E yX10_law cX10_law 3 (some .int) 9 195 6 40 [.ref x] h (fun v1 h1 => v1 = .int v ∧ k = 0 ∧ WI E x o ou F9 A9 n9 m9 Fm Am h1) (fun x1 h1 => ((x1 = "java/lang/IllegalArgumentException" ∧ k = 1)) ∧ WI E x o ou F9 A9 n9 m9 Fm Am h1)) {P : Value → AH → Prop} (kp : ∀ h1, WO E x o ou F9 A9 n9 m9 Fm Am (fun O => k = 0 → O 0 = v.toInt64) h1 → P (.int k) h1) : MxW l E yL_law cL_law 3 (some .int) [(0, 8, 11, 13)] 12 330 6 40 [.ref x, .ref ou] h P := by
  refine MxW.of (by decide) (Nat.le_of_ble_eq_true rfl) ?_
  intro K hK hR htab C
  subst hK
  obtain ⟨vs9, hx9⟩ := I9.obj
  refine g_aload_n (n := 1) C dL_law_0 rfl rfl ?_
  refine g_iconst (n := 2) (v := 0) C dL_law_1 rfl (by decide) ?_
  refine g_aload_n (n := 3) C dL_law_2 rfl rfl ?_
  refine g_callVx (n := 6) (As := []) C dL_law_3 rfl mw_X10_law w_505 (g_recv C hx9 rfl) rfl rfl (room hR rfl) (hM.mono (fun v1 h1 q9 => ?_) (fun x1 h1 q9 => ?_))
  · --returns
    obtain ⟨rfl, rfl, w9⟩ := q9
    obtain ⟨O9, ho9, hw9⟩ := w9.out
    refine g_i2l (n := 7) C dL_law_6 rfl ?_
    refine g_last (n := 8) C dL_law_7 rfl ho9 (by unfold vp_in; decide) ?_
    refine g_goto (t := 14) C dL_law_8 (by decide) ?_
    refine g_iconst (n := 15) (v := 0) C dL_law_14 rfl (by decide) ?_
    refine g_x ?_
    refine g_iret C dL_law_15 (by decide) (by decide) ?_
    exact kp _ ((hw9 _).imp fun _ e9 _ => by rw [e9]; exact if_pos rfl)
  · --throws
    obtain ⟨⟨rfl, rfl⟩, w9⟩ := q9
    refine g_catch (n := 11) (name := "java/lang/IllegalArgumentException") C [] (⟨0, 8, 11, 13⟩ : ExceptionTableEntry) [] (htab.trans (by rfl)) (fun w hw => nomatch hw) (by decide) (by decide) w_417 t_424 rfl (fun q9 => ?_)
    refine g_astore_n (n := 12) C dL_law_11 rfl (by decide) ?_
    refine g_iconst (n := 13) (v := 1) C dL_law_12 rfl (by decide) ?_
    refine g_x ?_
    refine g_iret C dL_law_13 (by decide) (by decide) ?_
    exact kp _ (w9.wo.imp fun _ _ z9 => absurd z9 (by decide))
theorem dL_agreement_0 : decode cL_agreement 0 = .ok (.aload_n 1, 1) := by decide +kernel
theorem dL_agreement_1 : decode cL_agreement 1 = .ok (.iconst 0, 1) := by decide +kernel
theorem dL_agreement_2 : decode cL_agreement 2 = .ok (.aload_n 0, 1) := by decide +kernel
theorem dL_agreement_3 : decode cL_agreement 3 = .ok (.invokevirtual 19, 3) := by decide +kernel
theorem dL_agreement_6 : decode cL_agreement 6 = .ok (.i2l, 1) := by decide +kernel
theorem dL_agreement_7 : decode cL_agreement 7 = .ok (.lastore, 1) := by decide +kernel
theorem dL_agreement_8 : decode cL_agreement 8 = .ok (.goto 6, 3) := by decide +kernel
theorem dL_agreement_11 : decode cL_agreement 11 = .ok (.astore_n 2, 1) := by decide +kernel
theorem dL_agreement_12 : decode cL_agreement 12 = .ok (.iconst 1, 1) := by decide +kernel
theorem dL_agreement_13 : decode cL_agreement 13 = .ok (.ireturn, 1) := by decide +kernel
theorem dL_agreement_14 : decode cL_agreement 14 = .ok (.iconst 0, 1) := by decide +kernel
theorem dL_agreement_15 : decode cL_agreement 15 = .ok (.ireturn, 1) := by decide +kernel
set_option maxHeartbeats 1000000 in
set_option maxRecDepth 20000 in
theorem lw_agreement {l : Launch} {E : Ev} {x o ou n m n9 m9 : Nat} {F F9 : Nat → Int32} {A A9 : Nat → Nat → Int32} {Fm : Nat → Int32} {Am : Nat → Nat → Int32} {h : AH} {k v : Int32} (I9 : WI E x o ou F A n m Fm Am h)  (hM : Mx l E yX10_agreement cX10_agreement 3 (some .int) 9 195 6 40 [.ref x] h (fun v1 h1 => v1 = .int v ∧ k = 0 ∧ WI E x o ou F9 A9 n9 m9 Fm Am h1) (fun x1 h1 => ((x1 = "java/lang/IllegalArgumentException" ∧ k = 1)) ∧ WI E x o ou F9 A9 n9 m9 Fm Am h1)) {P : Value → AH → Prop} (kp : ∀ h1, WO E x o ou F9 A9 n9 m9 Fm Am (fun O => k = 0 → O 0 = v.toInt64) h1 → P (.int k) h1) : MxW l E yL_agreement cL_agreement 3 (some .int) [(0, 8, 11, 13)] 12 330 6 40 [.ref x, .ref ou] h P := by
  refine MxW.of (by decide) (Nat.le_of_ble_eq_true rfl) ?_
  intro K hK hR htab C
  subst hK
  obtain ⟨vs9, hx9⟩ := I9.obj
  refine g_aload_n (n := 1) C dL_agreement_0 rfl rfl ?_
  refine g_iconst (n := 2) (v := 0) C dL_agreement_1 rfl (by decide) ?_
  refine g_aload_n (n := 3) C dL_agreement_2 rfl rfl ?_
  refine g_callVx (n := 6) (As := []) C dL_agreement_3 rfl mw_X10_agreement w_684 (g_recv C hx9 rfl) rfl rfl (room hR rfl) (hM.mono (fun v1 h1 q9 => ?_) (fun x1 h1 q9 => ?_))
  · --returns
    obtain ⟨rfl, rfl, w9⟩ := q9
    obtain ⟨O9, ho9, hw9⟩ := w9.out
    refine g_i2l (n := 7) C dL_agreement_6 rfl ?_
    refine g_last (n := 8) C dL_agreement_7 rfl ho9 (by unfold vp_in; decide) ?_
    refine g_goto (t := 14) C dL_agreement_8 (by decide) ?_
    refine g_iconst (n := 15) (v := 0) C dL_agreement_14 rfl (by decide) ?_
    refine g_x ?_
    refine g_iret C dL_agreement_15 (by decide) (by decide) ?_
    exact kp _ ((hw9 _).imp fun _ e9 _ => by rw [e9]; exact if_pos rfl)
  · --throws
    obtain ⟨⟨rfl, rfl⟩, w9⟩ := q9
    refine g_catch (n := 11) (name := "java/lang/IllegalArgumentException") C [] (⟨0, 8, 11, 13⟩ : ExceptionTableEntry) [] (htab.trans (by rfl)) (fun w hw => nomatch hw) (by decide) (by decide) w_417 t_424 rfl (fun q9 => ?_)
    refine g_astore_n (n := 12) C dL_agreement_11 rfl (by decide) ?_
    refine g_iconst (n := 13) (v := 1) C dL_agreement_12 rfl (by decide) ?_
    refine g_x ?_
    refine g_iret C dL_agreement_13 (by decide) (by decide) ?_
    exact kp _ (w9.wo.imp fun _ _ z9 => absurd z9 (by decide))
