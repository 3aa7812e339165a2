/-! Strings: the start's words, which nobody changes -/
section SROWS
variable {K : Cx} {E : Ev} {cc : ByteArray} {nL : Nat} {own : String} {ret : Option FieldType} {nm : String} {Q : State → Prop} {cs ss pc : Nat} {lv : List (Nat × Value)} {st : List Value} {h : AH}
theorem GX.str (C : GX K E cc nL own ret nm) : vk_S 11 SLEN SBYT (fun i => E.2.2 (20 + i)) (fun i => E.2.2 (40 + i)) (eA E) (ks K) (ks K).heap := C.z.2.2.2.2.2.2.1
theorem g_ldcS {n i : Nat} (tx : String) (key : Nat) (C : GX K E cc nL own ret nm) (hd : decode cc pc = .ok (.ldc i, 2)) (hn : pc + 2 = n) (hs : (own, i, tx, key) ∈ SREF) (k : G K E nL Q cs ss n lv (.ref (E.2.2 key) :: st) h) : G K E nL Q cs ss pc lv st h := fun H locs ls hH hS hL =>
  va_ldcS C.1 C.2.1 C.ow (C.z.2.2.2.2.2.2.2.1 _ hs) hd (by rw [hn]; exact k H locs ls hH hS hL)
theorem g_strC {n x : Nat} (C : GX K E cc nL own ret nm) (hd : decode cc pc = .ok (.getstatic x, 3)) (hn : pc + 3 = n) (hl : Cond.fieldLink own x "java/lang/String" "COMPACT_STRINGS" "Z" ∈ GW) (k : G K E nL Q cs ss n lv (.int 1 :: st) h) : G K E nL Q cs ss pc lv st h := fun H locs ls hH hS hL =>
  va_gets C.1 C.2.1 C.z.2.2.2.2.1 hS C.ow (C.gw hl) (fun _ h => h) hd (by rw [hn]; exact k H locs ls hH hS hL)
theorem g_sioobe {n x : Nat} (C : GX K E cc nL own ret nm) (hd : decode cc pc = .ok (.getstatic x, 3)) (hn : pc + 3 = n) (hl : Cond.fieldLink own x "jdk/internal/util/Preconditions" "SIOOBE_FORMATTER" "Ljava/util/function/BiFunction;" ∈ GW) (k0 : G K E nL Q cs ss n lv (.null :: st) h) (k1 : ∀ t, G K E nL Q cs ss n lv (.ref t :: st) h) : G K E nL Q cs ss pc lv st h := fun H locs ls hH hS hL => by
  rcases C.z.2.2.2.2.2.1 with q | ⟨t, q⟩
  · exact va_gets C.1 C.2.1 q hS C.ow (C.gw hl) (fun _ h => h) hd (by rw [hn]; exact k0 H locs ls hH hS hL)
  · exact va_gets C.1 C.2.1 q hS C.ow (C.gw hl) (fun _ h => h) hd (by rw [hn]; exact k1 t H locs ls hH hS hL)
theorem g_strV {n x i : Nat} (C : GX K E cc nL own ret nm) (hd : decode cc pc = .ok (.getfield x, 3)) (hn : pc + 3 = n) (hi : i < 11) (hl : Cond.fieldLink own x "java/lang/String" "value" "[B" ∈ GW) (k : G K E nL Q cs ss n lv (.ref (E.2.2 (40 + i)) :: st) h) : G K E nL Q cs ss pc lv (.ref (E.2.2 (20 + i)) :: st) h := fun H locs ls hH hS hL =>
  vk_getf C.1 C.2.1 (C.str.1 i hi).2.2.1 hS C.ow (C.gw hl) (fun _ h => h) hd (by rw [hn]; exact k H locs ls hH hS hL)
theorem g_strK {n x i : Nat} (C : GX K E cc nL own ret nm) (hd : decode cc pc = .ok (.getfield x, 3)) (hn : pc + 3 = n) (hi : i < 11) (hl : Cond.fieldLink own x "java/lang/String" "coder" "B" ∈ GW) (k : G K E nL Q cs ss n lv (.int 0 :: st) h) : G K E nL Q cs ss pc lv (.ref (E.2.2 (20 + i)) :: st) h := fun H locs ls hH hS hL =>
  vk_getf C.1 C.2.1 (C.str.1 i hi).2.1 hS C.ow (C.gw hl) (fun _ h => h) hd (by rw [hn]; exact k H locs ls hH hS hL)
theorem g_strL {n i : Nat} (C : GX K E cc nL own ret nm) (hd : decode cc pc = .ok (.arraylength, 1)) (hn : pc + 1 = n) (hi : i < 11) (k : G K E nL Q cs ss n lv (.int (nI (SLEN.getD i 0)) :: st) h) : G K E nL Q cs ss pc lv (.ref (E.2.2 (40 + i)) :: st) h := fun H locs ls hH hS hL =>
  va_tlen C.1 C.2.1 (C.str.1 i hi).2.2.2 hS rfl hd (by rw [hn]; exact k H locs ls hH hS hL)
def sbt (i j : Nat) : Int32 := (SBYT.getD i []).getD j 0
theorem slen_8 : ∀ i, i < 11 → SLEN.getD i 0 < 8 := by decide
theorem sbt_c : ∀ i, i < 11 → ∀ j, j < SLEN.getD i 0 → ((sbt i j &&& 255).toUInt32 % 65536).toInt32 = sbt i j ∧ narrow .char (.int (sbt i j)) = .int (sbt i j) := by
  intro i hi j hj
  have h8 := slen_8 i hi
  have key : ∀ i, i < 11 → ∀ j, j < 8 → ((sbt i j &&& 255).toUInt32 % 65536).toInt32 = sbt i j := by decide +kernel
  refine ⟨key i hi j (by omega), ?_⟩
  have k2 : ∀ i, i < 11 → ∀ j, j < 8 → ((sbt i j).toUInt32 % 65536).toInt32 = sbt i j := by decide +kernel
  show Value.int ((sbt i j).toUInt32 % 65536).toInt32 = _
  rw [k2 i hi j (by omega)]
theorem g_strB {n i j : Nat} {x : Int32} (C : GX K E cc nL own ret nm) (hd : decode cc pc = .ok (.baload, 1)) (hn : pc + 1 = n) (hi : i < 11) (hx : x = nI j) (hj : j < SLEN.getD i 0) (k : G K E nL Q cs ss n lv (.int (sbt i j) :: st) h) : G K E nL Q cs ss pc lv (.int x :: .ref (E.2.2 (40 + i)) :: st) h := by
  subst hx
  have h8 := slen_8 i hi
  exact fun H locs ls hH hS hL => va_tb C.1 C.2.1 (C.str.1 i hi).2.2.2 hS (vp_in_nI hj (by omega)) (by rw [nI_clamp (by omega)]) hd (by rw [hn]; exact k H locs ls hH hS hL)
theorem g_strR (C : GX K E cc nL own ret nm) {i : Nat} (hi : i < 11) : ∀ (H : Heap) (locs : List Loc), hOK E h H → va_S (eA E) (ks K).heap H locs → ∃ cellB : Cell, H[E.2.2 (20 + i)]? = some cellB ∧ cellB.vm.isStatics = false ∧ (ks K).vm.findClass "java/lang/String" = some cellB.cls := fun _ _ _ hS => vk_recv (adK := fun i => E.2.2 (20 + i)) (i := i) C.str hi hS
end SROWS
theorem dJ3_checkIndex_8e157_0 : decode cJ3_checkIndex_8e157 0 = .ok (.iload_n 0, 1) := by decide +kernel
theorem dJ3_checkIndex_8e157_1 : decode cJ3_checkIndex_8e157 1 = .ok (.ifCond .lt 8, 3) := by decide +kernel
theorem dJ3_checkIndex_8e157_4 : decode cJ3_checkIndex_8e157 4 = .ok (.iload_n 0, 1) := by decide +kernel
theorem dJ3_checkIndex_8e157_5 : decode cJ3_checkIndex_8e157 5 = .ok (.iload_n 1, 1) := by decide +kernel
theorem dJ3_checkIndex_8e157_6 : decode cJ3_checkIndex_8e157 6 = .ok (.if_icmp .lt 10, 3) := by decide +kernel
theorem dJ3_checkIndex_8e157_16 : decode cJ3_checkIndex_8e157 16 = .ok (.iload_n 0, 1) := by decide +kernel
theorem dJ3_checkIndex_8e157_17 : decode cJ3_checkIndex_8e157 17 = .ok (.ireturn, 1) := by decide +kernel
set_option maxHeartbeats 400000 in
set_option maxRecDepth 20000 in
theorem ct_pci0 {l : Launch} {E : Ev} {P : Value → AH → Prop}  {h : AH} {i N : Nat} (hi : i < N) (hN : N < 2147483648) (hp : P (.int (nI i)) h) : Mt l E yJ3_checkIndex_8e157 cJ3_checkIndex_8e157 3 (some .int) 0 0 0 0 [.int (nI i), .int (nI N), .null] (h) P := by
  refine Mt.of (by decide) (Nat.le_of_ble_eq_true rfl) ?_
  intro K hK hR C
  refine g_iload_n (n := 1) C dJ3_checkIndex_8e157_0 rfl rfl ?_
  refine g_if_lt (n := 4) (t := 9) C dJ3_checkIndex_8e157_1 rfl (by decide) (fun zc1 => ?_) (fun zc1 => ?_)
  · --t1
    first | exact absurd zc1 (Int32.not_lt.mpr (nI_le (a := 0) (Nat.zero_le _) (by omega))) | exact absurd (nI_lt hi hN) zc6
  · --f1
    refine g_iload_n (n := 5) C dJ3_checkIndex_8e157_4 rfl rfl ?_
    refine g_iload_n (n := 6) C dJ3_checkIndex_8e157_5 rfl rfl ?_
    refine g_icmp_lt (n := 9) (t := 16) C dJ3_checkIndex_8e157_6 rfl (by decide) (fun zc6 => ?_) (fun zc6 => ?_)
    · --t6
      refine g_iload_n (n := 17) C dJ3_checkIndex_8e157_16 rfl rfl ?_
      refine g_iret C dJ3_checkIndex_8e157_17 (by decide) (by decide) ?_
      exact hp
    · --f6
      first | exact absurd zc1 (Int32.not_lt.mpr (nI_le (a := 0) (Nat.zero_le _) (by omega))) | exact absurd (nI_lt hi hN) zc6
set_option maxHeartbeats 400000 in
set_option maxRecDepth 20000 in
theorem ct_pci1 {l : Launch} {E : Ev} {P : Value → AH → Prop}  {h : AH} {i N : Nat} {t : Nat} (hi : i < N) (hN : N < 2147483648) (hp : P (.int (nI i)) h) : Mt l E yJ3_checkIndex_8e157 cJ3_checkIndex_8e157 3 (some .int) 0 0 0 0 [.int (nI i), .int (nI N), .ref t] (h) P := by
  refine Mt.of (by decide) (Nat.le_of_ble_eq_true rfl) ?_
  intro K hK hR C
  refine g_iload_n (n := 1) C dJ3_checkIndex_8e157_0 rfl rfl ?_
  refine g_if_lt (n := 4) (t := 9) C dJ3_checkIndex_8e157_1 rfl (by decide) (fun zc1 => ?_) (fun zc1 => ?_)
  · --t1
    first | exact absurd zc1 (Int32.not_lt.mpr (nI_le (a := 0) (Nat.zero_le _) (by omega))) | exact absurd (nI_lt hi hN) zc6
  · --f1
    refine g_iload_n (n := 5) C dJ3_checkIndex_8e157_4 rfl rfl ?_
    refine g_iload_n (n := 6) C dJ3_checkIndex_8e157_5 rfl rfl ?_
    refine g_icmp_lt (n := 9) (t := 16) C dJ3_checkIndex_8e157_6 rfl (by decide) (fun zc6 => ?_) (fun zc6 => ?_)
    · --t6
      refine g_iload_n (n := 17) C dJ3_checkIndex_8e157_16 rfl rfl ?_
      refine g_iret C dJ3_checkIndex_8e157_17 (by decide) (by decide) ?_
      exact hp
    · --f6
      first | exact absurd zc1 (Int32.not_lt.mpr (nI_le (a := 0) (Nat.zero_le _) (by omega))) | exact absurd (nI_lt hi hN) zc6
theorem dJ0_checkIndex_df160_0 : decode cJ0_checkIndex_df160 0 = .ok (.iload_n 0, 1) := by decide +kernel
theorem dJ0_checkIndex_df160_1 : decode cJ0_checkIndex_df160 1 = .ok (.iload_n 1, 1) := by decide +kernel
theorem dJ0_checkIndex_df160_2 : decode cJ0_checkIndex_df160 2 = .ok (.getstatic 1053, 3) := by decide +kernel
theorem dJ0_checkIndex_df160_5 : decode cJ0_checkIndex_df160 5 = .ok (.invokestatic 1059, 3) := by decide +kernel
theorem dJ0_checkIndex_df160_8 : decode cJ0_checkIndex_df160 8 = .ok (.pop, 1) := by decide +kernel
theorem dJ0_checkIndex_df160_9 : decode cJ0_checkIndex_df160 9 = .ok (.return_, 1) := by decide +kernel
set_option maxHeartbeats 400000 in
set_option maxRecDepth 20000 in
theorem ct_sci {l : Launch} {E : Ev} {P : Value → AH → Prop}  {h : AH} {i N : Nat} (hi : i < N) (hN : N < 2147483648) (hp : P .null h) : Mt l E yJ0_checkIndex_df160 cJ0_checkIndex_df160 2 none 1 22 0 0 [.int (nI i), .int (nI N)] (h) P := by
  refine Mt.of (by decide) (Nat.le_of_ble_eq_true rfl) ?_
  intro K hK hR C
  refine g_iload_n (n := 1) C dJ0_checkIndex_df160_0 rfl rfl ?_
  refine g_iload_n (n := 2) C dJ0_checkIndex_df160_1 rfl rfl ?_
  refine g_sioobe (n := 5) C dJ0_checkIndex_df160_2 rfl w_592 ?_ (fun zt => ?_)
  · --null
    refine g_callS (n := 8) (As := [.int _, .int _, .null]) C dJ0_checkIndex_df160_5 rfl mw_J3_checkIndex_8e157 w_594 rfl rfl (room hR rfl) (ct_pci0 hi hN ?_)
    refine g_pop (n := 9) C dJ0_checkIndex_df160_8 rfl rfl ?_
    refine g_vret C dJ0_checkIndex_df160_9 (by decide) (by decide) ?_
    exact hp
  · --ref
    refine g_callS (n := 8) (As := [.int _, .int _, .ref _]) C dJ0_checkIndex_df160_5 rfl mw_J3_checkIndex_8e157 w_594 rfl rfl (room hR rfl) (ct_pci1 hi hN ?_)
    refine g_pop (n := 9) C dJ0_checkIndex_df160_8 rfl rfl ?_
    refine g_vret C dJ0_checkIndex_df160_9 (by decide) (by decide) ?_
    exact hp
theorem dJ0_coder_7d493_0 : decode cJ0_coder_7d493 0 = .ok (.getstatic 38, 3) := by decide +kernel
theorem dJ0_coder_7d493_3 : decode cJ0_coder_7d493 3 = .ok (.ifCond .eq 10, 3) := by decide +kernel
theorem dJ0_coder_7d493_6 : decode cJ0_coder_7d493 6 = .ok (.aload_n 0, 1) := by decide +kernel
theorem dJ0_coder_7d493_7 : decode cJ0_coder_7d493 7 = .ok (.getfield 15, 3) := by decide +kernel
theorem dJ0_coder_7d493_10 : decode cJ0_coder_7d493 10 = .ok (.goto 4, 3) := by decide +kernel
theorem dJ0_coder_7d493_14 : decode cJ0_coder_7d493 14 = .ok (.ireturn, 1) := by decide +kernel
set_option maxHeartbeats 400000 in
set_option maxRecDepth 20000 in
theorem ct_coder {l : Launch} {E : Ev} {P : Value → AH → Prop}  {h : AH} {i : Nat} (hi : i < 11) (hp : P (.int 0) h) : Mt l E yJ0_coder_7d493 cJ0_coder_7d493 1 (some .byte) 0 0 0 0 [.ref (E.2.2 (20 + i))] (h) P := by
  refine Mt.of (by decide) (Nat.le_of_ble_eq_true rfl) ?_
  intro K hK hR C
  refine g_strC (n := 3) C dJ0_coder_7d493_0 rfl w_576 ?_
  refine g_if_eq (n := 6) (t := 13) C dJ0_coder_7d493_3 rfl (by decide) (fun zc3 => ?_) (fun zc3 => ?_)
  · exact absurd zc3 (by decide)
  refine g_aload_n (n := 7) C dJ0_coder_7d493_6 rfl rfl ?_
  refine g_strK (n := 10) C dJ0_coder_7d493_7 rfl hi w_1429 ?_
  refine g_goto (t := 14) C dJ0_coder_7d493_10 (by decide) ?_
  refine g_zret C dJ0_coder_7d493_14 (by decide) (by decide) (by rfl) ?_
  exact hp
theorem dJ0_isLatin1_aae02_0 : decode cJ0_isLatin1_aae02 0 = .ok (.getstatic 38, 3) := by decide +kernel
theorem dJ0_isLatin1_aae02_3 : decode cJ0_isLatin1_aae02 3 = .ok (.ifCond .eq 14, 3) := by decide +kernel
theorem dJ0_isLatin1_aae02_6 : decode cJ0_isLatin1_aae02 6 = .ok (.aload_n 0, 1) := by decide +kernel
theorem dJ0_isLatin1_aae02_7 : decode cJ0_isLatin1_aae02 7 = .ok (.getfield 15, 3) := by decide +kernel
theorem dJ0_isLatin1_aae02_10 : decode cJ0_isLatin1_aae02 10 = .ok (.ifCond .ne 7, 3) := by decide +kernel
theorem dJ0_isLatin1_aae02_13 : decode cJ0_isLatin1_aae02 13 = .ok (.iconst 1, 1) := by decide +kernel
theorem dJ0_isLatin1_aae02_14 : decode cJ0_isLatin1_aae02 14 = .ok (.goto 4, 3) := by decide +kernel
theorem dJ0_isLatin1_aae02_18 : decode cJ0_isLatin1_aae02 18 = .ok (.ireturn, 1) := by decide +kernel
set_option maxHeartbeats 400000 in
set_option maxRecDepth 20000 in
theorem ct_latin {l : Launch} {E : Ev} {P : Value → AH → Prop}  {h : AH} {i : Nat} (hi : i < 11) (hp : P (.int 1) h) : Mt l E yJ0_isLatin1_aae02 cJ0_isLatin1_aae02 1 (some .boolean) 0 0 0 0 [.ref (E.2.2 (20 + i))] (h) P := by
  refine Mt.of (by decide) (Nat.le_of_ble_eq_true rfl) ?_
  intro K hK hR C
  refine g_strC (n := 3) C dJ0_isLatin1_aae02_0 rfl w_576 ?_
  refine g_if_eq (n := 6) (t := 17) C dJ0_isLatin1_aae02_3 rfl (by decide) (fun zc3 => ?_) (fun zc3 => ?_)
  · exact absurd zc3 (by decide)
  refine g_aload_n (n := 7) C dJ0_isLatin1_aae02_6 rfl rfl ?_
  refine g_strK (n := 10) C dJ0_isLatin1_aae02_7 rfl hi w_1429 ?_
  refine g_if_ne (n := 13) (t := 17) C dJ0_isLatin1_aae02_10 rfl (by decide) (fun zc10 => ?_) (fun zc10 => ?_)
  · exact absurd zc10 (by decide)
  refine g_iconst (n := 14) (v := 1) C dJ0_isLatin1_aae02_13 rfl (by decide) ?_
  refine g_goto (t := 18) C dJ0_isLatin1_aae02_14 (by decide) ?_
  refine g_zret C dJ0_isLatin1_aae02_18 (by decide) (by decide) (by rfl) ?_
  exact hp
theorem dJ0_length_8abf5_0 : decode cJ0_length_8abf5 0 = .ok (.aload_n 0, 1) := by decide +kernel
theorem dJ0_length_8abf5_1 : decode cJ0_length_8abf5 1 = .ok (.getfield 9, 3) := by decide +kernel
theorem dJ0_length_8abf5_4 : decode cJ0_length_8abf5 4 = .ok (.arraylength, 1) := by decide +kernel
theorem dJ0_length_8abf5_5 : decode cJ0_length_8abf5 5 = .ok (.aload_n 0, 1) := by decide +kernel
theorem dJ0_length_8abf5_6 : decode cJ0_length_8abf5 6 = .ok (.invokevirtual 335, 3) := by decide +kernel
theorem dJ0_length_8abf5_9 : decode cJ0_length_8abf5 9 = .ok (.ishr, 1) := by decide +kernel
theorem dJ0_length_8abf5_10 : decode cJ0_length_8abf5 10 = .ok (.ireturn, 1) := by decide +kernel
set_option maxHeartbeats 400000 in
set_option maxRecDepth 20000 in
theorem ct_slen {l : Launch} {E : Ev} {P : Value → AH → Prop}  {h : AH} {i : Nat} (hi : i < 11) (hp : P (.int (nI (SLEN.getD i 0))) h) : Mt l E yJ0_length_8abf5 cJ0_length_8abf5 1 (some .int) 1 20 0 0 [.ref (E.2.2 (20 + i))] (h) P := by
  refine Mt.of (by decide) (Nat.le_of_ble_eq_true rfl) ?_
  intro K hK hR C
  refine g_aload_n (n := 1) C dJ0_length_8abf5_0 rfl rfl ?_
  refine g_strV (n := 4) C dJ0_length_8abf5_1 rfl hi w_1428 ?_
  refine g_strL (n := 5) C dJ0_length_8abf5_4 rfl hi ?_
  refine g_aload_n (n := 6) C dJ0_length_8abf5_5 rfl rfl ?_
  refine g_callV (n := 9) (As := []) C dJ0_length_8abf5_6 rfl mw_J0_coder_7d493 w_572 (g_strR C hi) rfl rfl (room hR rfl) (ct_coder hi ?_)
  refine g_ishr (n := 10) C dJ0_length_8abf5_9 rfl ?_
  refine g_iret C dJ0_length_8abf5_10 (by decide) (by decide) ?_
  have e9 : nI (SLEN.getD i 0) >>> ((0 : Int32) &&& 31) = nI (SLEN.getD i 0) := by
    have k9 : ∀ i, i < 11 → nI (SLEN.getD i 0) >>> ((0 : Int32) &&& 31) = nI (SLEN.getD i 0) := by decide +kernel
    exact k9 i hi
  rw [e9]
  exact hp
theorem dJ1_charAt_3b067_0 : decode cJ1_charAt_3b067 0 = .ok (.iload_n 1, 1) := by decide +kernel
theorem dJ1_charAt_3b067_1 : decode cJ1_charAt_3b067 1 = .ok (.aload_n 0, 1) := by decide +kernel
theorem dJ1_charAt_3b067_2 : decode cJ1_charAt_3b067 2 = .ok (.arraylength, 1) := by decide +kernel
theorem dJ1_charAt_3b067_3 : decode cJ1_charAt_3b067 3 = .ok (.invokestatic 9, 3) := by decide +kernel
theorem dJ1_charAt_3b067_6 : decode cJ1_charAt_3b067 6 = .ok (.aload_n 0, 1) := by decide +kernel
theorem dJ1_charAt_3b067_7 : decode cJ1_charAt_3b067 7 = .ok (.iload_n 1, 1) := by decide +kernel
theorem dJ1_charAt_3b067_8 : decode cJ1_charAt_3b067 8 = .ok (.baload, 1) := by decide +kernel
theorem dJ1_charAt_3b067_9 : decode cJ1_charAt_3b067 9 = .ok (.sipush 255, 3) := by decide +kernel
theorem dJ1_charAt_3b067_12 : decode cJ1_charAt_3b067 12 = .ok (.iand, 1) := by decide +kernel
theorem dJ1_charAt_3b067_13 : decode cJ1_charAt_3b067 13 = .ok (.i2c, 1) := by decide +kernel
theorem dJ1_charAt_3b067_14 : decode cJ1_charAt_3b067 14 = .ok (.ireturn, 1) := by decide +kernel
set_option maxHeartbeats 400000 in
set_option maxRecDepth 20000 in
theorem ct_lchar {l : Launch} {E : Ev} {P : Value → AH → Prop}  {h : AH} {i j : Nat} (hi : i < 11) (hj : j < SLEN.getD i 0) (hp : P (.int (sbt i j)) h) : Mt l E yJ1_charAt_3b067 cJ1_charAt_3b067 2 (some .char) 2 43 0 0 [.ref (E.2.2 (40 + i)), .int (nI j)] (h) P := by
  refine Mt.of (by decide) (Nat.le_of_ble_eq_true rfl) ?_
  intro K hK hR C
  refine g_iload_n (n := 1) C dJ1_charAt_3b067_0 rfl rfl ?_
  refine g_aload_n (n := 2) C dJ1_charAt_3b067_1 rfl rfl ?_
  refine g_strL (n := 3) C dJ1_charAt_3b067_2 rfl hi ?_
  refine g_callS (n := 6) (As := [.int _, .int _]) C dJ1_charAt_3b067_3 rfl mw_J0_checkIndex_df160 w_589 rfl rfl (room hR rfl) (ct_sci hj (by have := slen_8 i hi; omega) ?_)
  refine g_aload_n (n := 7) C dJ1_charAt_3b067_6 rfl rfl ?_
  refine g_iload_n (n := 8) C dJ1_charAt_3b067_7 rfl rfl ?_
  refine g_strB (n := 9) C dJ1_charAt_3b067_8 rfl hi rfl hj ?_
  refine g_sipush (n := 12) (v := 255) C dJ1_charAt_3b067_9 rfl (by decide) ?_
  refine g_iand (n := 13) C dJ1_charAt_3b067_12 rfl ?_
  refine g_i2c (n := 14) C dJ1_charAt_3b067_13 rfl ?_
  rw [(sbt_c i hi j hj).1]
  refine g_zret C dJ1_charAt_3b067_14 (by decide) (by decide) ((sbt_c i hi j hj).2) ?_
  exact hp
theorem dJ0_charAt_5068e_0 : decode cJ0_charAt_5068e 0 = .ok (.aload_n 0, 1) := by decide +kernel
theorem dJ0_charAt_5068e_1 : decode cJ0_charAt_5068e 1 = .ok (.invokevirtual 492, 3) := by decide +kernel
theorem dJ0_charAt_5068e_4 : decode cJ0_charAt_5068e 4 = .ok (.ifCond .eq 12, 3) := by decide +kernel
theorem dJ0_charAt_5068e_7 : decode cJ0_charAt_5068e 7 = .ok (.aload_n 0, 1) := by decide +kernel
theorem dJ0_charAt_5068e_8 : decode cJ0_charAt_5068e 8 = .ok (.getfield 9, 3) := by decide +kernel
theorem dJ0_charAt_5068e_11 : decode cJ0_charAt_5068e 11 = .ok (.iload_n 1, 1) := by decide +kernel
theorem dJ0_charAt_5068e_12 : decode cJ0_charAt_5068e 12 = .ok (.invokestatic 495, 3) := by decide +kernel
theorem dJ0_charAt_5068e_15 : decode cJ0_charAt_5068e 15 = .ok (.ireturn, 1) := by decide +kernel
set_option maxHeartbeats 400000 in
set_option maxRecDepth 20000 in
theorem ct_schar {l : Launch} {E : Ev} {P : Value → AH → Prop}  {h : AH} {i j : Nat} (hi : i < 11) (hj : j < SLEN.getD i 0) (hp : P (.int (sbt i j)) h) : Mt l E yJ0_charAt_5068e cJ0_charAt_5068e 2 (some .char) 3 64 0 0 [.ref (E.2.2 (20 + i)), .int (nI j)] (h) P := by
  refine Mt.of (by decide) (Nat.le_of_ble_eq_true rfl) ?_
  intro K hK hR C
  refine g_aload_n (n := 1) C dJ0_charAt_5068e_0 rfl rfl ?_
  refine g_callV (n := 4) (As := []) C dJ0_charAt_5068e_1 rfl mw_J0_isLatin1_aae02 w_582 (g_strR C hi) rfl rfl (room hR rfl) (ct_latin hi ?_)
  refine g_if_eq (n := 7) (t := 16) C dJ0_charAt_5068e_4 rfl (by decide) (fun zc4 => ?_) (fun zc4 => ?_)
  · exact absurd zc4 (by decide)
  refine g_aload_n (n := 8) C dJ0_charAt_5068e_7 rfl rfl ?_
  refine g_strV (n := 11) C dJ0_charAt_5068e_8 rfl hi w_1428 ?_
  refine g_iload_n (n := 12) C dJ0_charAt_5068e_11 rfl rfl ?_
  refine g_callS (n := 15) (As := [.ref _, .int _]) C dJ0_charAt_5068e_12 rfl mw_J1_charAt_3b067 w_586 rfl rfl (room hR rfl) (ct_lchar hi hj ?_)
  refine g_zret C dJ0_charAt_5068e_15 (by decide) (by decide) ((sbt_c i hi j hj).2) ?_
  exact hp
