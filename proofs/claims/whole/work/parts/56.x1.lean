section NXW
variable {K : Cx} {E : Ev} {cc : ByteArray} {nL : Nat} {own : String} {ret : Option FieldType} {nm : String} {Q : State → Prop} {cs ss pc : Nat} {lv : List (Nat × Value)} {st : List Value} {h : AH}
theorem g_ldcw {n : Nat} (C : GX K E cc nL own ret nm) {i : Nat} {v : Int32} (hd : decode cc pc = .ok (.ldc_w i, 3)) (hn : pc + 3 = n) (hw : Cond.constant own i v ∈ GW) (k : G K E nL Q cs ss n lv (.int v :: st) h) : G K E nL Q cs ss pc lv (st) h := fun H locs ls hH hS hL => lv_ldcw C.1 C.2.1 C.ow (C.gw hw) hd (by rw [hn]; exact k H locs ls hH hS hL)
end NXW
theorem LW_cons {p : Nat × va_E} {L : List (Nat × va_E)} {h : AH} : LW (p :: L) h = hset (LW L h) p.1 p.2 := by
  funext b
  unfold hset LW
  rw [List.find?_cons]
  by_cases q : b = p.1
  · rw [if_pos q, show (p.1 == b) = true from by simp [q]]
  · rw [if_neg q, show (p.1 == b) = false from by simpa using fun z => q z.symm]
theorem Wd.cast {h : AH} {ad : Nat → Nat → Nat} {L L' : List (Nat → Option va_E)} (W : Wd h ad (wV L)) (e : L = L') : Wd h ad (wV L') := e ▸ W
def rset (R : Nat → Nat → Nat → Int32) (c i : Nat) (g : Nat → Int32) : Nat → Nat → Nat → Int32 := fun a b => if a = c then (if b = i then g else R a b) else R a b
abbrev pitE (A : Nat → Nat → Int32) (i : Nat) : va_E := .inr (5, [.int (A 3 i), .int (A 4 i), .int (A 7 i), .int (A 8 i), .int (A 5 i), .int (A 6 i)])
theorem dX10_checkSquare_0 : decode cX10_checkSquare 0 = .ok (.iload_n 0, 1) := by decide +kernel
theorem dX10_checkSquare_1 : decode cX10_checkSquare 1 = .ok (.ifCond .lt 9, 3) := by decide +kernel
theorem dX10_checkSquare_4 : decode cX10_checkSquare 4 = .ok (.iload_n 0, 1) := by decide +kernel
theorem dX10_checkSquare_5 : decode cX10_checkSquare 5 = .ok (.bipush 96, 2) := by decide +kernel
theorem dX10_checkSquare_7 : decode cX10_checkSquare 7 = .ok (.if_icmp .lt 14, 3) := by decide +kernel
theorem dX10_checkSquare_10 : decode cX10_checkSquare 10 = .ok (.new 201, 3) := by decide +kernel
theorem dX10_checkSquare_13 : decode cX10_checkSquare 13 = .ok (.dup, 1) := by decide +kernel
theorem dX10_checkSquare_14 : decode cX10_checkSquare 14 = .ok (.ldc_w 306, 3) := by decide +kernel
theorem dX10_checkSquare_17 : decode cX10_checkSquare 17 = .ok (.invokespecial 205, 3) := by decide +kernel
theorem dX10_checkSquare_20 : decode cX10_checkSquare 20 = .ok (.athrow, 1) := by decide +kernel
theorem dX10_checkSquare_21 : decode cX10_checkSquare 21 = .ok (.return_, 1) := by decide +kernel
set_option maxHeartbeats 400000 in
set_option maxRecDepth 20000 in
theorem cw_square {l : Launch} {E : Ev} {P : Value → AH → Prop} {PX : String → AH → Prop}  {h : AH} {s : Int32} (hl9 : l.stackTraces = false) (k1 : ¬ (s < 0 ∨ 95 < s) → P .null h) (kx : s < 0 ∨ 95 < s → PX "java/lang/IndexOutOfBoundsException" h) : Mx l E yX10_checkSquare cX10_checkSquare 1 none 6 90 1 6 [.int s] (h) P PX := by
  refine Mx.of (by decide) (Nat.le_of_ble_eq_true rfl) ?_
  intro K hK hR htab C
  refine g_iload_n (n := 1) C dX10_checkSquare_0 rfl rfl ?_
  refine g_if_lt (n := 4) (t := 10) C dX10_checkSquare_1 rfl (by decide) (fun zc1 => ?_) (fun zc1 => ?_)
  · --t1
    refine g_throwW (x := "java/lang/IndexOutOfBoundsException") (text := "a square is 0 to 95") (names := ["java/lang/RuntimeException", "java/lang/Exception"]) (ik := 201) (is := 306) (ic := 205) (key := 203) C (by rw [hK]; exact hl9) htab dX10_checkSquare_10 rfl dX10_checkSquare_13 rfl dX10_checkSquare_14 rfl dX10_checkSquare_17 rfl dX10_checkSquare_20 (by decide +kernel) (by decide +kernel) w_707 w_58 (List.mem_of_getElem? (i := 14) rfl) (hat_IOOB w_717) (hgood_of w_707 w_58 (hat_IOOB w_717)) (roomT hR rfl) ?_
    first | exact kx (Or.inl zc1) | exact kx (Or.inr ((i_succ (M := 95) (N := 96) (by decide)).mpr zc7))
  · --f1
    refine g_iload_n (n := 5) C dX10_checkSquare_4 rfl rfl ?_
    refine g_bipush (n := 7) (v := 96) C dX10_checkSquare_5 rfl (by decide) ?_
    refine g_icmp_lt (n := 10) (t := 21) C dX10_checkSquare_7 rfl (by decide) (fun zc7 => ?_) (fun zc7 => ?_)
    · --t7
      refine g_x ?_
      refine g_vret C dX10_checkSquare_21 (by decide) (by decide) ?_
      exact k1 (fun q => q.elim zc1 (fun y => (i_succ (M := 95) (N := 96) (by decide)).mp y zc7))
    · --f7
      refine g_throwW (x := "java/lang/IndexOutOfBoundsException") (text := "a square is 0 to 95") (names := ["java/lang/RuntimeException", "java/lang/Exception"]) (ik := 201) (is := 306) (ic := 205) (key := 203) C (by rw [hK]; exact hl9) htab dX10_checkSquare_10 rfl dX10_checkSquare_13 rfl dX10_checkSquare_14 rfl dX10_checkSquare_17 rfl dX10_checkSquare_20 (by decide +kernel) (by decide +kernel) w_707 w_58 (List.mem_of_getElem? (i := 14) rfl) (hat_IOOB w_717) (hgood_of w_707 w_58 (hat_IOOB w_717)) (roomT hR rfl) ?_
      first | exact kx (Or.inl zc1) | exact kx (Or.inr ((i_succ (M := 95) (N := 96) (by decide)).mpr zc7))
theorem dX10_checkMoney_0 : decode cX10_checkMoney 0 = .ok (.iload_n 0, 1) := by decide +kernel
theorem dX10_checkMoney_1 : decode cX10_checkMoney 1 = .ok (.ifCond .lt 10, 3) := by decide +kernel
theorem dX10_checkMoney_4 : decode cX10_checkMoney 4 = .ok (.iload_n 0, 1) := by decide +kernel
theorem dX10_checkMoney_5 : decode cX10_checkMoney 5 = .ok (.ldc_w 308, 3) := by decide +kernel
theorem dX10_checkMoney_8 : decode cX10_checkMoney 8 = .ok (.if_icmp .le 14, 3) := by decide +kernel
theorem dX10_checkMoney_11 : decode cX10_checkMoney 11 = .ok (.new 57, 3) := by decide +kernel
theorem dX10_checkMoney_14 : decode cX10_checkMoney 14 = .ok (.dup, 1) := by decide +kernel
theorem dX10_checkMoney_15 : decode cX10_checkMoney 15 = .ok (.ldc_w 309, 3) := by decide +kernel
theorem dX10_checkMoney_18 : decode cX10_checkMoney 18 = .ok (.invokespecial 61, 3) := by decide +kernel
theorem dX10_checkMoney_21 : decode cX10_checkMoney 21 = .ok (.athrow, 1) := by decide +kernel
theorem dX10_checkMoney_22 : decode cX10_checkMoney 22 = .ok (.return_, 1) := by decide +kernel
set_option maxHeartbeats 400000 in
set_option maxRecDepth 20000 in
theorem cw_money {l : Launch} {E : Ev} {P : Value → AH → Prop} {PX : String → AH → Prop}  {h : AH} {s : Int32} (hl9 : l.stackTraces = false) (k1 : ¬ (s < 0 ∨ 1000000 < s) → P .null h) (kx : s < 0 ∨ 1000000 < s → PX "java/lang/IllegalArgumentException" h) : Mx l E yX10_checkMoney cX10_checkMoney 1 none 6 90 1 6 [.int s] (h) P PX := by
  refine Mx.of (by decide) (Nat.le_of_ble_eq_true rfl) ?_
  intro K hK hR htab C
  refine g_iload_n (n := 1) C dX10_checkMoney_0 rfl rfl ?_
  refine g_if_lt (n := 4) (t := 11) C dX10_checkMoney_1 rfl (by decide) (fun zc1 => ?_) (fun zc1 => ?_)
  · --t1
    refine g_throwW (x := "java/lang/IllegalArgumentException") (text := "money is 0 to 1000000") (names := ["java/lang/RuntimeException", "java/lang/Exception"]) (ik := 57) (is := 309) (ic := 61) (key := 215) C (by rw [hK]; exact hl9) htab dX10_checkMoney_11 rfl dX10_checkMoney_14 rfl dX10_checkMoney_15 rfl dX10_checkMoney_18 rfl dX10_checkMoney_21 (by decide +kernel) (by decide +kernel) w_422 w_50 (List.mem_of_getElem? (i := 26) rfl) (hat_IAE w_466) (hgood_of w_422 w_50 (hat_IAE w_466)) (roomT hR rfl) ?_
    first | exact kx (Or.inl zc1) | exact kx (Or.inr (Int32.not_le.mp zc8))
  · --f1
    refine g_iload_n (n := 5) C dX10_checkMoney_4 rfl rfl ?_
    refine g_ldcw (n := 8) C dX10_checkMoney_5 rfl w_1022 ?_
    refine g_icmp_le (n := 11) (t := 22) C dX10_checkMoney_8 rfl (by decide) (fun zc8 => ?_) (fun zc8 => ?_)
    · --t8
      refine g_x ?_
      refine g_vret C dX10_checkMoney_22 (by decide) (by decide) ?_
      exact k1 (fun q => q.elim zc1 (fun y => Int32.not_le.mpr y zc8))
    · --f8
      refine g_throwW (x := "java/lang/IllegalArgumentException") (text := "money is 0 to 1000000") (names := ["java/lang/RuntimeException", "java/lang/Exception"]) (ik := 57) (is := 309) (ic := 61) (key := 215) C (by rw [hK]; exact hl9) htab dX10_checkMoney_11 rfl dX10_checkMoney_14 rfl dX10_checkMoney_15 rfl dX10_checkMoney_18 rfl dX10_checkMoney_21 (by decide +kernel) (by decide +kernel) w_422 w_50 (List.mem_of_getElem? (i := 26) rfl) (hat_IAE w_466) (hgood_of w_422 w_50 (hat_IAE w_466)) (roomT hR rfl) ?_
      first | exact kx (Or.inl zc1) | exact kx (Or.inr (Int32.not_le.mp zc8))
theorem dX10_pitOf_0 : decode cX10_pitOf 0 = .ok (.iload_n 1, 1) := by decide +kernel
theorem dX10_pitOf_1 : decode cX10_pitOf 1 = .ok (.ifCond .lt 14, 3) := by decide +kernel
theorem dX10_pitOf_4 : decode cX10_pitOf 4 = .ok (.iload_n 1, 1) := by decide +kernel
theorem dX10_pitOf_5 : decode cX10_pitOf 5 = .ok (.aload_n 0, 1) := by decide +kernel
theorem dX10_pitOf_6 : decode cX10_pitOf 6 = .ok (.getfield 19, 3) := by decide +kernel
theorem dX10_pitOf_9 : decode cX10_pitOf 9 = .ok (.invokevirtual 98, 3) := by decide +kernel
theorem dX10_pitOf_12 : decode cX10_pitOf 12 = .ok (.if_icmp .lt 14, 3) := by decide +kernel
theorem dX10_pitOf_15 : decode cX10_pitOf 15 = .ok (.new 201, 3) := by decide +kernel
theorem dX10_pitOf_18 : decode cX10_pitOf 18 = .ok (.dup, 1) := by decide +kernel
theorem dX10_pitOf_19 : decode cX10_pitOf 19 = .ok (.ldc_w 296, 3) := by decide +kernel
theorem dX10_pitOf_22 : decode cX10_pitOf 22 = .ok (.invokespecial 205, 3) := by decide +kernel
theorem dX10_pitOf_25 : decode cX10_pitOf 25 = .ok (.athrow, 1) := by decide +kernel
theorem dX10_pitOf_26 : decode cX10_pitOf 26 = .ok (.aload_n 0, 1) := by decide +kernel
theorem dX10_pitOf_27 : decode cX10_pitOf 27 = .ok (.getfield 19, 3) := by decide +kernel
theorem dX10_pitOf_30 : decode cX10_pitOf 30 = .ok (.iload_n 1, 1) := by decide +kernel
theorem dX10_pitOf_31 : decode cX10_pitOf 31 = .ok (.invokevirtual 298, 3) := by decide +kernel
theorem dX10_pitOf_34 : decode cX10_pitOf 34 = .ok (.areturn, 1) := by decide +kernel
set_option maxHeartbeats 400000 in
set_option maxRecDepth 20000 in
theorem cw_pitOf {l : Launch} {E : Ev} {P : Value → AH → Prop} {PX : String → AH → Prop}  {h : AH} {ad : Nat → Nat → Nat} {F : Nat → Int32} {A : Nat → Nat → Int32} {R : Nat → Nat → Nat → Int32} {z : Nat → Int32} {N : Nat → Nat} {f : Nat → Nat → Option Nat} {n m : Nat} {Fm : Nat → Int32} {Am : Nat → Nat → Int32} {O : OL} (W : Wd h ad (wV (wL E ad F A R z N f n m Fm Am O))) (X : CR E ad F A R z N f n m) {p : Int32} (hl9 : l.stackTraces = false) (k1 : ∀ j, j < n → p = nI j → P (.ref (ad 9 j)) h) (kx : p < 0 ∨ F 9 - 1 < p → PX "java/lang/IndexOutOfBoundsException" h) : Mx l E yX10_pitOf cX10_pitOf 2 (some (.object "GemPits$Pit")) 6 90 1 6 [.ref (ad 0 0), .int p] (h) P PX := by
  refine Mx.of (by decide) (Nat.le_of_ble_eq_true rfl) ?_
  intro K hK hR htab C
  have hx : h (ad 0 0) = some (.inr (10, [.ref (ad 1 0), .ref (ad 3 0), .ref (ad 10 0), .ref (ad 20 0), .int (F 19)])) := W.at 0 0 rfl
  have hk : h (ad 3 0) = some (.inr (2, [.ref (ad 4 0), .ref (ad 6 0), .ref (ad 7 0), .ref (ad 8 0), .int (F 2), .int (F 1)])) := W.at 3 0 rfl
  have he : h (ad 4 0) = some (.inr (0, [.int (z 0), .ref (ad 5 0), .int (nI n)])) := W.at 4 0 rfl
  obtain ⟨hd, hnN, hN, hpa, hal⟩ := w_list W X
  obtain ⟨⟨hn0, hn1, -⟩, -⟩ := X
  refine g_iload_n (n := 1) C dX10_pitOf_0 rfl rfl ?_
  refine g_if_lt (n := 4) (t := 15) C dX10_pitOf_1 rfl (by decide) (fun zc1 => ?_) (fun zc1 => ?_)
  · --t1
    refine g_throwW (x := "java/lang/IndexOutOfBoundsException") (text := "there is no such pit") (names := ["java/lang/RuntimeException", "java/lang/Exception"]) (ik := 201) (is := 296) (ic := 205) (key := 205) C (by rw [hK]; exact hl9) htab dX10_pitOf_15 rfl dX10_pitOf_18 rfl dX10_pitOf_19 rfl dX10_pitOf_22 rfl dX10_pitOf_25 (by decide +kernel) (by decide +kernel) w_707 w_58 (List.mem_of_getElem? (i := 16) rfl) (hat_IOOB w_717) (hgood_of w_707 w_58 (hat_IOOB w_717)) (roomT hR rfl) ?_
    first | exact kx (Or.inl zc1) | (refine kx (Or.inr ?_); rw [hn0]; exact (i_lim (by omega)).mpr zc12)
  · --f1
    refine g_iload_n (n := 5) C dX10_pitOf_4 rfl rfl ?_
    refine g_aload_n (n := 6) C dX10_pitOf_5 rfl rfl ?_
    refine g_get (n := 9) (T := TX10) C 1 dX10_pitOf_6 rfl hx rfl rfl (by decide) inX10 w_235 rfl ?_
    refine g_callV (n := 12) (As := []) C dX10_pitOf_9 rfl mw_X2_pits w_372 (g_recv C hk rfl) rfl rfl (room hR rfl) (cc_gpits hk he ?_)
    refine g_icmp_lt (n := 15) (t := 26) C dX10_pitOf_12 rfl (by decide) (fun zc12 => ?_) (fun zc12 => ?_)
    · --t12
      obtain ⟨j, hj, ej⟩ := ix_of (x := p) (m := F 9) (n := n) zc1 (by rw [hn0]; exact fun y => (i_lim (by omega)).mp y zc12) hn0 (by omega)
      subst ej
      refine g_aload_n (n := 27) C dX10_pitOf_26 rfl rfl ?_
      refine g_get (n := 30) (T := TX10) C 1 dX10_pitOf_27 rfl hx rfl rfl (by decide) inX10 w_235 rfl ?_
      refine g_iload_n (n := 31) C dX10_pitOf_30 rfl rfl ?_
      refine g_callV (n := 34) (As := [.int _]) C dX10_pitOf_31 rfl mw_X2_pitAt w_848 (g_recv C hk rfl) rfl rfl (room hR rfl) (cc_gpitAt (ci := 0) hk he (hd (by omega)) hj hnN hN (hpa j hj).1 (hpa j hj).2 ?_)
      refine g_x ?_
      refine g_aret C dX10_pitOf_34 (by first | exact Or.inl ⟨_, rfl⟩ | exact Or.inr ⟨_, rfl⟩) (by decide) (by decide) ?_
      exact k1 j hj rfl
    · --f12
      refine g_throwW (x := "java/lang/IndexOutOfBoundsException") (text := "there is no such pit") (names := ["java/lang/RuntimeException", "java/lang/Exception"]) (ik := 201) (is := 296) (ic := 205) (key := 205) C (by rw [hK]; exact hl9) htab dX10_pitOf_15 rfl dX10_pitOf_18 rfl dX10_pitOf_19 rfl dX10_pitOf_22 rfl dX10_pitOf_25 (by decide +kernel) (by decide +kernel) w_707 w_58 (List.mem_of_getElem? (i := 16) rfl) (hat_IOOB w_717) (hgood_of w_707 w_58 (hat_IOOB w_717)) (roomT hR rfl) ?_
      first | exact kx (Or.inl zc1) | (refine kx (Or.inr ?_); rw [hn0]; exact (i_lim (by omega)).mpr zc12)
theorem dX10_stoneOf_0 : decode cX10_stoneOf 0 = .ok (.iload_n 1, 1) := by decide +kernel
theorem dX10_stoneOf_1 : decode cX10_stoneOf 1 = .ok (.ifCond .lt 14, 3) := by decide +kernel
theorem dX10_stoneOf_4 : decode cX10_stoneOf 4 = .ok (.iload_n 1, 1) := by decide +kernel
theorem dX10_stoneOf_5 : decode cX10_stoneOf 5 = .ok (.aload_n 0, 1) := by decide +kernel
theorem dX10_stoneOf_6 : decode cX10_stoneOf 6 = .ok (.getfield 26, 3) := by decide +kernel
theorem dX10_stoneOf_9 : decode cX10_stoneOf 9 = .ok (.invokevirtual 178, 3) := by decide +kernel
theorem dX10_stoneOf_12 : decode cX10_stoneOf 12 = .ok (.if_icmp .lt 14, 3) := by decide +kernel
theorem dX10_stoneOf_15 : decode cX10_stoneOf 15 = .ok (.new 201, 3) := by decide +kernel
theorem dX10_stoneOf_18 : decode cX10_stoneOf 18 = .ok (.dup, 1) := by decide +kernel
theorem dX10_stoneOf_19 : decode cX10_stoneOf 19 = .ok (.ldc_w 301, 3) := by decide +kernel
theorem dX10_stoneOf_22 : decode cX10_stoneOf 22 = .ok (.invokespecial 205, 3) := by decide +kernel
theorem dX10_stoneOf_25 : decode cX10_stoneOf 25 = .ok (.athrow, 1) := by decide +kernel
theorem dX10_stoneOf_26 : decode cX10_stoneOf 26 = .ok (.aload_n 0, 1) := by decide +kernel
theorem dX10_stoneOf_27 : decode cX10_stoneOf 27 = .ok (.getfield 26, 3) := by decide +kernel
theorem dX10_stoneOf_30 : decode cX10_stoneOf 30 = .ok (.iload_n 1, 1) := by decide +kernel
theorem dX10_stoneOf_31 : decode cX10_stoneOf 31 = .ok (.invokevirtual 303, 3) := by decide +kernel
theorem dX10_stoneOf_34 : decode cX10_stoneOf 34 = .ok (.areturn, 1) := by decide +kernel
set_option maxHeartbeats 400000 in
set_option maxRecDepth 20000 in
theorem cw_stoneOf {l : Launch} {E : Ev} {P : Value → AH → Prop} {PX : String → AH → Prop}  {h : AH} {ad : Nat → Nat → Nat} {F : Nat → Int32} {A : Nat → Nat → Int32} {R : Nat → Nat → Nat → Int32} {z : Nat → Int32} {N : Nat → Nat} {f : Nat → Nat → Option Nat} {n m : Nat} {Fm : Nat → Int32} {Am : Nat → Nat → Int32} {O : OL} (W : Wd h ad (wV (wL E ad F A R z N f n m Fm Am O))) (X : CR E ad F A R z N f n m) {p : Int32} (hl9 : l.stackTraces = false) (k1 : ∀ j, j < m → p = nI j → P (.ref (ad 16 j)) h) (kx : p < 0 ∨ F 23 - 1 < p → PX "java/lang/IndexOutOfBoundsException" h) : Mx l E yX10_stoneOf cX10_stoneOf 2 (some (.object "GemPits$Stone")) 6 90 1 6 [.ref (ad 0 0), .int p] (h) P PX := by
  refine Mx.of (by decide) (Nat.le_of_ble_eq_true rfl) ?_
  intro K hK hR htab C
  have hx : h (ad 0 0) = some (.inr (10, [.ref (ad 1 0), .ref (ad 3 0), .ref (ad 10 0), .ref (ad 20 0), .int (F 19)])) := W.at 0 0 rfl
  have hmk : h (ad 10 0) = some (.inr (4, [.ref (ad 11 0), .ref (ad 13 0), .ref (ad 14 0), .int (F 24), .int (z 3)])) := W.at 10 0 rfl
  have he2 : h (ad 11 0) = some (.inr (0, [.int (z 1), .ref (ad 12 0), .int (nI m)])) := W.at 11 0 rfl
  obtain ⟨hd2, hmN, hN2, hst, hal2⟩ := w_list2 W X
  obtain ⟨⟨-, -, hn0, hn1⟩, -⟩ := X
  refine g_iload_n (n := 1) C dX10_stoneOf_0 rfl rfl ?_
  refine g_if_lt (n := 4) (t := 15) C dX10_stoneOf_1 rfl (by decide) (fun zc1 => ?_) (fun zc1 => ?_)
  · --t1
    refine g_throwW (x := "java/lang/IndexOutOfBoundsException") (text := "there is no such stone") (names := ["java/lang/RuntimeException", "java/lang/Exception"]) (ik := 201) (is := 301) (ic := 205) (key := 213) C (by rw [hK]; exact hl9) htab dX10_stoneOf_15 rfl dX10_stoneOf_18 rfl dX10_stoneOf_19 rfl dX10_stoneOf_22 rfl dX10_stoneOf_25 (by decide +kernel) (by decide +kernel) w_707 w_58 (List.mem_of_getElem? (i := 24) rfl) (hat_IOOB w_717) (hgood_of w_707 w_58 (hat_IOOB w_717)) (roomT hR rfl) ?_
    first | exact kx (Or.inl zc1) | (refine kx (Or.inr ?_); rw [hn0]; exact (i_lim (by omega)).mpr zc12)
  · --f1
    refine g_iload_n (n := 5) C dX10_stoneOf_4 rfl rfl ?_
    refine g_aload_n (n := 6) C dX10_stoneOf_5 rfl rfl ?_
    refine g_get (n := 9) (T := TX10) C 2 dX10_stoneOf_6 rfl hx rfl rfl (by decide) inX10 w_236 rfl ?_
    refine g_callV (n := 12) (As := []) C dX10_stoneOf_9 rfl mw_X4_stones w_380 (g_recv C hmk rfl) rfl rfl (room hR rfl) (cc_mstones hmk he2 ?_)
    refine g_icmp_lt (n := 15) (t := 26) C dX10_stoneOf_12 rfl (by decide) (fun zc12 => ?_) (fun zc12 => ?_)
    · --t12
      obtain ⟨j, hj, ej⟩ := ix_of (x := p) (m := F 23) (n := m) zc1 (by rw [hn0]; exact fun y => (i_lim (by omega)).mp y zc12) hn0 (by omega)
      subst ej
      refine g_aload_n (n := 27) C dX10_stoneOf_26 rfl rfl ?_
      refine g_get (n := 30) (T := TX10) C 2 dX10_stoneOf_27 rfl hx rfl rfl (by decide) inX10 w_236 rfl ?_
      refine g_iload_n (n := 31) C dX10_stoneOf_30 rfl rfl ?_
      refine g_callV (n := 34) (As := [.int _]) C dX10_stoneOf_31 rfl mw_X4_stoneAt w_1013 (g_recv C hmk rfl) rfl rfl (room hR rfl) (cc_mstoneAt (ci := 0) hmk he2 (hd2 (by omega)) hj hmN hN2 (hst j hj).1 (hst j hj).2.1 ?_)
      refine g_x ?_
      refine g_aret C dX10_stoneOf_34 (by first | exact Or.inl ⟨_, rfl⟩ | exact Or.inr ⟨_, rfl⟩) (by decide) (by decide) ?_
      exact k1 j hj rfl
    · --f12
      refine g_throwW (x := "java/lang/IndexOutOfBoundsException") (text := "there is no such stone") (names := ["java/lang/RuntimeException", "java/lang/Exception"]) (ik := 201) (is := 301) (ic := 205) (key := 213) C (by rw [hK]; exact hl9) htab dX10_stoneOf_15 rfl dX10_stoneOf_18 rfl dX10_stoneOf_19 rfl dX10_stoneOf_22 rfl dX10_stoneOf_25 (by decide +kernel) (by decide +kernel) w_707 w_58 (List.mem_of_getElem? (i := 24) rfl) (hat_IOOB w_717) (hgood_of w_707 w_58 (hat_IOOB w_717)) (roomT hR rfl) ?_
      first | exact kx (Or.inl zc1) | (refine kx (Or.inr ?_); rw [hn0]; exact (i_lim (by omega)).mpr zc12)
theorem dX10_fault_0 : decode cX10_fault 0 = .ok (.aload_n 0, 1) := by decide +kernel
theorem dX10_fault_1 : decode cX10_fault 1 = .ok (.getfield 37, 3) := by decide +kernel
theorem dX10_fault_4 : decode cX10_fault 4 = .ok (.ireturn, 1) := by decide +kernel
set_option maxHeartbeats 400000 in
set_option maxRecDepth 20000 in
theorem cw_fault {l : Launch} {E : Ev} {P : Value → AH → Prop}  {x o ou n m : Nat} {F : Nat → Int32} {A : Nat → Nat → Int32} {Fm : Nat → Int32} {Am : Nat → Nat → Int32} {h : AH} (I9 : WI E x o ou F A n m Fm Am h)  (hp : P (.int (F 19)) h) : Mt l E yX10_fault cX10_fault 1 (some .int) 0 0 0 0 [.ref x] (h) P := by
  refine Mt.of (by decide) (Nat.le_of_ble_eq_true rfl) ?_
  intro K hK hR C
  obtain ⟨ad, R, z, N, f, O, W, X, rfl, rfl, rfl⟩ := I9
  have hx : h (ad 0 0) = some (.inr (10, [.ref (ad 1 0), .ref (ad 3 0), .ref (ad 10 0), .ref (ad 20 0), .int (F 19)])) := W.at 0 0 rfl
  refine g_aload_n (n := 1) C dX10_fault_0 rfl rfl ?_
  refine g_get (n := 4) (T := TX10) C 4 dX10_fault_1 rfl hx rfl rfl (by decide) inX10 w_238 rfl ?_
  refine g_iret C dX10_fault_4 (by decide) (by decide) ?_
  exact hp
