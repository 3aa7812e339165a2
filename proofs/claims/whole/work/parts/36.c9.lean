theorem dX8_isSold_0 : decode cX8_isSold 0 = .ok (.aload_n 0, 1) := by decide +kernel
theorem dX8_isSold_1 : decode cX8_isSold 1 = .ok (.getfield 31, 3) := by decide +kernel
theorem dX8_isSold_4 : decode cX8_isSold 4 = .ok (.iconst (-1), 1) := by decide +kernel
theorem dX8_isSold_5 : decode cX8_isSold 5 = .ok (.if_icmp .eq 7, 3) := by decide +kernel
theorem dX8_isSold_8 : decode cX8_isSold 8 = .ok (.iconst 1, 1) := by decide +kernel
theorem dX8_isSold_9 : decode cX8_isSold 9 = .ok (.goto 4, 3) := by decide +kernel
theorem dX8_isSold_12 : decode cX8_isSold 12 = .ok (.iconst 0, 1) := by decide +kernel
theorem dX8_isSold_13 : decode cX8_isSold 13 = .ok (.ireturn, 1) := by decide +kernel
set_option maxHeartbeats 400000 in
set_option maxRecDepth 20000 in
theorem cc_isSold {l : Launch} {E : Ev} {P : Value → AH → Prop}  {a hs sh : Nat} {pi ba bu pr : Int32} {h : AH} (ha : h a = some (.inr (8, [.int pi, .int ba, .ref hs, .ref sh, .int bu, .int pr]))) (k1 : ¬ bu = -1 → P (.int 1) h) (k0 : bu = -1 → P (.int 0) h) : Mt l E yX8_isSold cX8_isSold 1 (some .boolean) 0 0 0 0 [.ref a] (h) P := by
  refine Mt.of (by decide) (Nat.le_of_ble_eq_true rfl) ?_
  intro K hK hR C
  refine g_aload_n (n := 1) C dX8_isSold_0 rfl rfl ?_
  refine g_get (n := 4) (T := TX8) C 4 dX8_isSold_1 rfl ha rfl rfl (by decide) inX8 w_967 rfl ?_
  refine g_iconst (n := 5) (v := (-1)) C dX8_isSold_4 rfl (by decide) ?_
  refine g_icmp_eq (n := 8) (t := 12) C dX8_isSold_5 rfl (by decide) (fun zc5 => ?_) (fun zc5 => ?_)
  · --t5
    refine g_iconst (n := 13) (v := 0) C dX8_isSold_12 rfl (by decide) ?_
    refine g_zret C dX8_isSold_13 (by decide) (by decide) (by rfl) ?_
    exact k0 (by assumption)
  · --f5
    refine g_iconst (n := 9) (v := 1) C dX8_isSold_8 rfl (by decide) ?_
    refine g_goto (t := 13) C dX8_isSold_9 (by decide) ?_
    refine g_zret C dX8_isSold_13 (by decide) (by decide) (by rfl) ?_
    exact k1 (by assumption)
theorem f_iast {K : Cx} {E : Ev} {cc : ByteArray} {nL : Nat} {own : String} {ret : Option FieldType} {nm : String} {Q : State → Prop} {cs ss pc : Nat} {lv : List (Nat × Value)} {st : List Value} {h : AH} {n a N : Nat} {f : Nat → Int32} {y x : Int32} (j : Nat) (C : GX K E cc nL own ret nm) (hd : decode cc pc = .ok (.iastore, 1)) (hn : pc + 1 = n) (he : h a = some (.inl (E.2.2 1, N, .inl f))) (hx : y = nI j) (hj : j < N) (hN : N < 2147483648) (k : G K E nL Q cs ss n lv st (hset h a (.inl (E.2.2 1, N, .inl (upd f j x))))) : G K E nL Q cs ss pc lv (.int x :: .int y :: .ref a :: st) h := by
  subst hx
  refine g_iast C hd hn he (vp_in_nI hj hN) ?_
  rw [nI_clamp (by omega)]
  exact k
/-- the buyer of the greatest hand from the limit on, of the first p: -1 if none, and what he gives -/
def cbuy (G : Nat → Int32) (lim : Int32) : Nat → Int32 × Int32
  | 0 => (-1, lim - 1)
  | p + 1 => if ¬ G p = -1 ∧ (cbuy G lim p).2 < G p then (nI p, G p) else cbuy G lim p
theorem cbuy_1 {G : Nat → Int32} {lim : Int32} {p : Nat} (h1 : ¬ G p = -1) (h2 : (cbuy G lim p).2 < G p) : (nI p, G p) = cbuy G lim (p + 1) := by
  conv => rhs; unfold cbuy
  rw [if_pos ⟨h1, h2⟩]
theorem cbuy_0 {G : Nat → Int32} {lim : Int32} {p : Nat} (h : ¬ (¬ G p = -1 ∧ (cbuy G lim p).2 < G p)) : cbuy G lim p = cbuy G lim (p + 1) := by
  conv => rhs; unfold cbuy
  rw [if_neg h]
theorem dX8_takeHand_0 : decode cX8_takeHand 0 = .ok (.aload_n 0, 1) := by decide +kernel
theorem dX8_takeHand_1 : decode cX8_takeHand 1 = .ok (.invokevirtual 37, 3) := by decide +kernel
theorem dX8_takeHand_4 : decode cX8_takeHand 4 = .ok (.ifCond .eq 5, 3) := by decide +kernel
theorem dX8_takeHand_7 : decode cX8_takeHand 7 = .ok (.iconst 0, 1) := by decide +kernel
theorem dX8_takeHand_8 : decode cX8_takeHand 8 = .ok (.ireturn, 1) := by decide +kernel
theorem dX8_takeHand_9 : decode cX8_takeHand 9 = .ok (.aload_n 0, 1) := by decide +kernel
theorem dX8_takeHand_10 : decode cX8_takeHand 10 = .ok (.getfield 9, 3) := by decide +kernel
theorem dX8_takeHand_13 : decode cX8_takeHand 13 = .ok (.iload_n 1, 1) := by decide +kernel
theorem dX8_takeHand_14 : decode cX8_takeHand 14 = .ok (.iload_n 2, 1) := by decide +kernel
theorem dX8_takeHand_15 : decode cX8_takeHand 15 = .ok (.iastore, 1) := by decide +kernel
theorem dX8_takeHand_16 : decode cX8_takeHand 16 = .ok (.iconst 1, 1) := by decide +kernel
theorem dX8_takeHand_17 : decode cX8_takeHand 17 = .ok (.ireturn, 1) := by decide +kernel
set_option maxHeartbeats 400000 in
set_option maxRecDepth 20000 in
theorem cc_takeHand {l : Launch} {E : Ev} {P : Value → AH → Prop}  {a hs sh : Nat} {pi ba bu pr : Int32} {h : AH} (ha : h a = some (.inr (8, [.int pi, .int ba, .ref hs, .ref sh, .int bu, .int pr]))) {G9 : Nat → Int32} (hh : h hs = some (.inl (E.2.2 1, 6, .inl G9))) {k : Nat} (hk : k < 6) {x : Int32} (k0 : ¬ bu = -1 → P (.int 0) h) (k1 : bu = -1 → P (.int 1) (hset h hs (.inl (E.2.2 1, 6, .inl (upd G9 k x))))) : Mt l E yX8_takeHand cX8_takeHand 3 (some .boolean) 1 20 0 0 [.ref a, .int (nI k), .int x] (h) P := by
  refine Mt.of (by decide) (Nat.le_of_ble_eq_true rfl) ?_
  intro K hK hR C
  refine g_aload_n (n := 1) C dX8_takeHand_0 rfl rfl ?_
  refine g_callV (n := 4) (As := []) C dX8_takeHand_1 rfl mw_X8_isSold w_1028 (g_recv C ha rfl) rfl rfl (room hR rfl) (cc_isSold ha (fun za1 => ?_) (fun zb1 => ?_))
  · --k1.0
    refine g_if_eq (n := 7) (t := 9) C dX8_takeHand_4 rfl (by decide) (fun zc4 => ?_) (fun zc4 => ?_)
    · exact absurd zc4 (by decide)
    refine g_iconst (n := 8) (v := 0) C dX8_takeHand_7 rfl (by decide) ?_
    refine g_zret C dX8_takeHand_8 (by decide) (by decide) (by rfl) ?_
    exact k0 za1
  · --k1.1
    refine g_if_eq (n := 7) (t := 9) C dX8_takeHand_4 rfl (by decide) (fun zc4 => ?_) (fun zc4 => ?_)
    rotate_left
    · exact absurd zc4 (by decide)
    refine g_aload_n (n := 10) C dX8_takeHand_9 rfl rfl ?_
    refine g_get (n := 13) (T := TX8) C 2 dX8_takeHand_10 rfl ha rfl rfl (by decide) inX8 w_962 rfl ?_
    refine g_iload_n (n := 14) C dX8_takeHand_13 rfl rfl ?_
    refine g_iload_n (n := 15) C dX8_takeHand_14 rfl rfl ?_
    refine f_iast (n := 16) (k) C dX8_takeHand_15 rfl hh rfl (by omega) (by decide) ?_
    refine g_iconst (n := 17) (v := 1) C dX8_takeHand_16 rfl (by decide) ?_
    refine g_zret C dX8_takeHand_17 (by decide) (by decide) (by rfl) ?_
    exact k1 zb1
