section ALR
variable {K : Cx} {E : Ev} {cc : ByteArray} {nL : Nat} {own : String} {ret : Option FieldType} {nm : String} {Q : State → Prop} {cs ss pc : Nat} {lv : List (Nat × Value)} {st : List Value} {h : AH}
theorem al_len {n d k N : Nat} {f : Nat → Option Nat} (C : GX K E cc nL own ret nm) (hd : decode cc pc = .ok (.arraylength, 1)) (hn : pc + 1 = n) (hl : alF E h d k N f) (kk : G K E nL Q cs ss n lv (.int (nI N) :: st) h) : G K E nL Q cs ss pc lv (.ref d :: st) h := by
  rcases hl.1 with ⟨h1, h2⟩ | ⟨h1, h2⟩
  · subst h1; subst h2
    exact g_dfltLen C hd hn kk
  · exact g_alen C 3 hd hn h2 rfl rfl kk
end ALR
theorem dJx4a65c_add_72be8_0 : decode cJx4a65c_add_72be8 0 = .ok (.iload_n 3, 1) := by decide +kernel
theorem dJx4a65c_add_72be8_1 : decode cJx4a65c_add_72be8 1 = .ok (.aload_n 2, 1) := by decide +kernel
theorem dJx4a65c_add_72be8_2 : decode cJx4a65c_add_72be8 2 = .ok (.arraylength, 1) := by decide +kernel
theorem dJx4a65c_add_72be8_3 : decode cJx4a65c_add_72be8 3 = .ok (.if_icmp .ne 8, 3) := by decide +kernel
theorem dJx4a65c_add_72be8_11 : decode cJx4a65c_add_72be8 11 = .ok (.aload_n 2, 1) := by decide +kernel
theorem dJx4a65c_add_72be8_12 : decode cJx4a65c_add_72be8 12 = .ok (.iload_n 3, 1) := by decide +kernel
theorem dJx4a65c_add_72be8_13 : decode cJx4a65c_add_72be8 13 = .ok (.aload_n 1, 1) := by decide +kernel
theorem dJx4a65c_add_72be8_14 : decode cJx4a65c_add_72be8 14 = .ok (.aastore, 1) := by decide +kernel
theorem dJx4a65c_add_72be8_15 : decode cJx4a65c_add_72be8 15 = .ok (.aload_n 0, 1) := by decide +kernel
theorem dJx4a65c_add_72be8_16 : decode cJx4a65c_add_72be8 16 = .ok (.iload_n 3, 1) := by decide +kernel
theorem dJx4a65c_add_72be8_17 : decode cJx4a65c_add_72be8 17 = .ok (.iconst 1, 1) := by decide +kernel
theorem dJx4a65c_add_72be8_18 : decode cJx4a65c_add_72be8 18 = .ok (.iadd, 1) := by decide +kernel
theorem dJx4a65c_add_72be8_19 : decode cJx4a65c_add_72be8 19 = .ok (.putfield 48, 3) := by decide +kernel
theorem dJx4a65c_add_72be8_22 : decode cJx4a65c_add_72be8 22 = .ok (.return_, 1) := by decide +kernel
set_option maxHeartbeats 400000 in
set_option maxRecDepth 20000 in
theorem ct_addA {l : Launch} {E : Ev} {P : Value → AH → Prop}  {a d v n N : Nat} {mc : Int32} {f : Nat → Option Nat} {h : AH} (he : h a = some (.inr (0, [.int mc, .ref d, .int (nI n)]))) (hv : isO h v) (hn : n ≤ 59) (hd : h d = some (eQ E N f)) (hnN : n < N) (hN : N ≤ 100) (hp : P .null (hset (hset h d (eQ E N (va_up f n (some v)))) a (.inr (0, [.int mc, .ref d, .int (nI (n + 1))])))) : Mt l E yJx4a65c_add_72be8 cJx4a65c_add_72be8 4 none 5 108 1 100 [.ref a, .ref v, .ref d, .int (nI n)] (h) P := by
  refine Mt.of (by decide) (Nat.le_of_ble_eq_true rfl) ?_
  intro K hK hR C
  refine g_iload_n (n := 1) C dJx4a65c_add_72be8_0 rfl rfl ?_
  refine g_aload_n (n := 2) C dJx4a65c_add_72be8_1 rfl rfl ?_
  refine g_alen (n := 3) (v := nI N) C 3 dJx4a65c_add_72be8_2 rfl hd rfl rfl ?_
  refine g_icmp_ne (n := 6) (t := 11) C dJx4a65c_add_72be8_3 rfl (by decide) (fun zc3 => ?_) (fun zc3 => ?_)
  · --t3
    refine g_aload_n (n := 12) C dJx4a65c_add_72be8_11 rfl rfl ?_
    refine g_iload_n (n := 13) C dJx4a65c_add_72be8_12 rfl rfl ?_
    refine g_aload_n (n := 14) C dJx4a65c_add_72be8_13 rfl rfl ?_
    refine g_aast (n := 15) C dJx4a65c_add_72be8_14 rfl (hd) (hv) (vp_in_nI (n := n) (by omega) (by omega)) ?_
    rw [nI_clamp (by omega)]
    refine g_aload_n (n := 16) C dJx4a65c_add_72be8_15 rfl rfl ?_
    refine g_iload_n (n := 17) C dJx4a65c_add_72be8_16 rfl rfl ?_
    refine g_iconst (n := 18) (v := 1) C dJx4a65c_add_72be8_17 rfl (by decide) ?_
    refine g_iadd (n := 19) C dJx4a65c_add_72be8_18 rfl ?_
    rw [nI_1 n]
    refine g_put (n := 22) (T := TJx4a65c) (ty0 := tyJx4a65c) C 2 dJx4a65c_add_72be8_19 rfl ((hset_ne _ _ (fun z => by rw [z, hd] at he; cases he)).trans he) rfl (by decide) inJx4a65c w_109 rfl tyJx4a65c_ok nmJx4a65c rfl rfl rfl rfl (by show 2 < 3; decide) ?_
    refine g_vret C dJx4a65c_add_72be8_22 (by decide) (by decide) ?_
    exact hp
  · --f3
    exact absurd (nI_inj9 (by omega) (by omega) zc3) (by omega)
theorem dJx4a65c_add_72be8_6 : decode cJx4a65c_add_72be8 6 = .ok (.aload_n 0, 1) := by decide +kernel
theorem dJx4a65c_add_72be8_7 : decode cJx4a65c_add_72be8 7 = .ok (.invokevirtual 129, 3) := by decide +kernel
theorem dJx4a65c_add_72be8_10 : decode cJx4a65c_add_72be8 10 = .ok (.astore_n 2, 1) := by decide +kernel
set_option maxHeartbeats 400000 in
set_option maxRecDepth 20000 in
theorem ct_addB {l : Launch} {E : Ev} {P : Value → AH → Prop}  {a d v n : Nat} {mc : Int32} {f : Nat → Option Nat} {h : AH} (he : h a = some (.inr (0, [.int mc, .ref d, .int (nI n)]))) (hv : isO h v) (hn : n ≤ 59) (hl : alF E h d n n f) (hp : ∀ q M g, h q = none → n + 1 ≤ M → M ≤ 100 → (∀ i, i < n → g i = f i) → P .null (hset (hset h q (eQ E M (va_up g n (some v)))) a (.inr (0, [.int mc, .ref q, .int (nI (n + 1))])))) : Mt l E yJx4a65c_add_72be8 cJx4a65c_add_72be8 4 none 5 108 1 100 [.ref a, .ref v, .ref d, .int (nI n)] (h) P := by
  refine Mt.of (by decide) (Nat.le_of_ble_eq_true rfl) ?_
  intro K hK hR C
  refine g_iload_n (n := 1) C dJx4a65c_add_72be8_0 rfl rfl ?_
  refine g_aload_n (n := 2) C dJx4a65c_add_72be8_1 rfl rfl ?_
  refine al_len (n := 3) C dJx4a65c_add_72be8_2 rfl hl ?_
  refine g_icmp_ne (n := 6) (t := 11) C dJx4a65c_add_72be8_3 rfl (by decide) (fun zc3 => absurd rfl zc3) (fun zc3 => ?_)
  refine g_aload_n (n := 7) C dJx4a65c_add_72be8_6 rfl rfl ?_
  refine g_callV (n := 10) (As := []) C dJx4a65c_add_72be8_7 rfl mw_Jx4a65c_grow_d5877 w_784 (g_recv C he rfl) rfl rfl (room hR rfl) (ct_gr he hl (by omega) (fun q M g hq hM hM2 hg => ?_))
  refine g_astore_n (n := 11) C dJx4a65c_add_72be8_10 rfl (by decide) ?_
  refine g_aload_n (n := 12) C dJx4a65c_add_72be8_11 rfl rfl ?_
  refine g_iload_n (n := 13) C dJx4a65c_add_72be8_12 rfl rfl ?_
  refine g_aload_n (n := 14) C dJx4a65c_add_72be8_13 rfl rfl ?_
  have haq : q ≠ a := fun z => by rw [← z, hq] at he; cases he
  have hv3 := isO_set (ws := [.int mc, .ref q, .int (nI n)]) ((hset_ne h (eQ E M g) (fun z => haq z.symm)).trans he) (isO_new (e := eQ E M g) hq hv)
  refine g_aast (n := 15) C dJx4a65c_add_72be8_14 rfl ((hset_ne _ _ haq).trans (hset_same _ _ _)) (hv3) (vp_in_nI (n := n) (by omega) (by omega)) ?_
  rw [nI_clamp (by omega)]
  refine g_aload_n (n := 16) C dJx4a65c_add_72be8_15 rfl rfl ?_
  refine g_iload_n (n := 17) C dJx4a65c_add_72be8_16 rfl rfl ?_
  refine g_iconst (n := 18) (v := 1) C dJx4a65c_add_72be8_17 rfl (by decide) ?_
  refine g_iadd (n := 19) C dJx4a65c_add_72be8_18 rfl ?_
  rw [nI_1 n]
  refine g_put (n := 22) (T := TJx4a65c) (ty0 := tyJx4a65c) C 2 dJx4a65c_add_72be8_19 rfl ((hset_ne _ _ (fun z => haq z.symm)).trans (hset_same _ _ _)) rfl (by decide) inJx4a65c w_109 rfl tyJx4a65c_ok nmJx4a65c rfl rfl rfl rfl (by show 2 < 3; decide) ?_
  refine g_vret C dJx4a65c_add_72be8_22 (by decide) (by decide) ?_
  rw [show List.set _ 2 _ = ([.int mc, .ref q, .int (nI (n + 1))] : List Value) from rfl, hset4 (fun z => haq z.symm)]
  exact hp q M g hq hM hM2 hg
theorem ct_add2 {l : Launch} {E : Ev} {P : Value → AH → Prop} {a d v n N : Nat} {mc : Int32} {f : Nat → Option Nat} {h : AH} (he : h a = some (.inr (0, [.int mc, .ref d, .int (nI n)]))) (hv : isO h v) (hn : n ≤ 59) (hl : alF E h d n N f) (hp : ∀ e M g, ((e = d ∧ 1 ≤ N) ∨ h e = none) → e ≠ a → n + 1 ≤ M → M ≤ 100 → (∀ i, i < n → g i = f i) → P .null (hset (hset h e (eQ E M (va_up g n (some v)))) a (.inr (0, [.int mc, .ref e, .int (nI (n + 1))])))) : Mt l E yJx4a65c_add_72be8 cJx4a65c_add_72be8 4 none 5 108 1 100 [.ref a, .ref v, .ref d, .int (nI n)] h P := by
  by_cases c : n = N
  · subst c
    exact ct_addB he hv hn hl (fun q M g hq h1 h2 h3 => hp q M g (Or.inr hq) (fun z => by rw [← z, hq] at he; cases he) h1 h2 h3)
  · obtain ⟨c1, h1, h2, h3⟩ := hl
    rcases c1 with ⟨e1, e2⟩ | ⟨e1, e2⟩
    · exact absurd (by omega) c
    · exact ct_addA he hv hn e2 (by omega) h2 (hp d N f (Or.inl ⟨rfl, by omega⟩) (fun z => by rw [z, he] at e2; cases e2) (by omega) h2 (fun _ _ => rfl))
theorem alF_set {E : Ev} {h : AH} {a d n N : Nat} {f : Nat → Option Nat} {vs ws : List Value} (he : h a = some (.inr (0, vs))) (hl : alF E h d n N f) : alF E (hset h a (.inr (0, ws))) d n N f := by
  obtain ⟨c, h1, h2, h3⟩ := hl
  refine ⟨c.imp id (fun z => ⟨z.1, (hset_ne _ _ (fun y => by rw [y, he] at z; cases z.2)).trans z.2⟩), h1, h2, fun i y hi hy => isO_set he (h3 i y hi hy)⟩
theorem dJx4a65c_add_9ea2d_0 : decode cJx4a65c_add_9ea2d 0 = .ok (.aload_n 0, 1) := by decide +kernel
theorem dJx4a65c_add_9ea2d_1 : decode cJx4a65c_add_9ea2d 1 = .ok (.dup, 1) := by decide +kernel
theorem dJx4a65c_add_9ea2d_2 : decode cJx4a65c_add_9ea2d 2 = .ok (.getfield 63, 3) := by decide +kernel
theorem dJx4a65c_add_9ea2d_5 : decode cJx4a65c_add_9ea2d 5 = .ok (.iconst 1, 1) := by decide +kernel
theorem dJx4a65c_add_9ea2d_6 : decode cJx4a65c_add_9ea2d 6 = .ok (.iadd, 1) := by decide +kernel
theorem dJx4a65c_add_9ea2d_7 : decode cJx4a65c_add_9ea2d 7 = .ok (.putfield 63, 3) := by decide +kernel
theorem dJx4a65c_add_9ea2d_10 : decode cJx4a65c_add_9ea2d 10 = .ok (.aload_n 0, 1) := by decide +kernel
theorem dJx4a65c_add_9ea2d_11 : decode cJx4a65c_add_9ea2d 11 = .ok (.aload_n 1, 1) := by decide +kernel
theorem dJx4a65c_add_9ea2d_12 : decode cJx4a65c_add_9ea2d 12 = .ok (.aload_n 0, 1) := by decide +kernel
theorem dJx4a65c_add_9ea2d_13 : decode cJx4a65c_add_9ea2d 13 = .ok (.getfield 9, 3) := by decide +kernel
theorem dJx4a65c_add_9ea2d_16 : decode cJx4a65c_add_9ea2d 16 = .ok (.aload_n 0, 1) := by decide +kernel
theorem dJx4a65c_add_9ea2d_17 : decode cJx4a65c_add_9ea2d 17 = .ok (.getfield 48, 3) := by decide +kernel
theorem dJx4a65c_add_9ea2d_20 : decode cJx4a65c_add_9ea2d 20 = .ok (.invokevirtual 131, 3) := by decide +kernel
theorem dJx4a65c_add_9ea2d_23 : decode cJx4a65c_add_9ea2d 23 = .ok (.iconst 1, 1) := by decide +kernel
theorem dJx4a65c_add_9ea2d_24 : decode cJx4a65c_add_9ea2d 24 = .ok (.ireturn, 1) := by decide +kernel
set_option maxHeartbeats 400000 in
set_option maxRecDepth 20000 in
theorem ct_add {l : Launch} {E : Ev} {P : Value → AH → Prop}  {a d v n N : Nat} {mc : Int32} {f : Nat → Option Nat} {h : AH} (he : h a = some (.inr (0, [.int mc, .ref d, .int (nI n)]))) (hv : isO h v) (hn : n ≤ 59) (hl : alF E h d n N f) (hp : ∀ e M g, ((e = d ∧ 1 ≤ N) ∨ h e = none) → e ≠ a → n + 1 ≤ M → M ≤ 100 → (∀ i, i < n → g i = f i) → P (.int 1) (hset (hset h e (eQ E M (va_up g n (some v)))) a (.inr (0, [.int (mc + 1), .ref e, .int (nI (n + 1))])))) : Mt l E yJx4a65c_add_9ea2d cJx4a65c_add_9ea2d 2 (some .boolean) 6 131 1 100 [.ref a, .ref v] (h) P := by
  refine Mt.of (by decide) (Nat.le_of_ble_eq_true rfl) ?_
  intro K hK hR C
  refine g_aload_n (n := 1) C dJx4a65c_add_9ea2d_0 rfl rfl ?_
  refine g_dup (n := 2) C dJx4a65c_add_9ea2d_1 rfl rfl ?_
  refine g_getS (n := 5) (T := TJx4a65c) C 0 dJx4a65c_add_9ea2d_2 rfl he rfl rfl (by decide) inJx4a65c w_111 w_112 ?_
  refine g_iconst (n := 6) (v := 1) C dJx4a65c_add_9ea2d_5 rfl (by decide) ?_
  refine g_iadd (n := 7) C dJx4a65c_add_9ea2d_6 rfl ?_
  refine g_putS (n := 10) (T := TJx4a65c) (ty0 := tyJx4a65c) C 0 dJx4a65c_add_9ea2d_7 rfl (he) rfl (by decide) inJx4a65c w_111 w_112 tyJx4a65c_ok nmJx4a65c rfl rfl rfl rfl (by show 0 < 3; decide) ?_
  rw [show List.set _ 0 _ = ([.int (mc + 1), .ref d, .int (nI n)] : List Value) from rfl]
  have he1 : hset h a (.inr (0, [.int (mc + 1), .ref d, .int (nI n)])) a = some (.inr (0, [.int (mc + 1), .ref d, .int (nI n)])) := hset_same _ _ _
  refine g_aload_n (n := 11) C dJx4a65c_add_9ea2d_10 rfl rfl ?_
  refine g_aload_n (n := 12) C dJx4a65c_add_9ea2d_11 rfl rfl ?_
  refine g_aload_n (n := 13) C dJx4a65c_add_9ea2d_12 rfl rfl ?_
  refine g_get (n := 16) (T := TJx4a65c) C 1 dJx4a65c_add_9ea2d_13 rfl he1 rfl rfl (by decide) inJx4a65c w_108 rfl ?_
  refine g_aload_n (n := 17) C dJx4a65c_add_9ea2d_16 rfl rfl ?_
  refine g_get (n := 20) (T := TJx4a65c) C 2 dJx4a65c_add_9ea2d_17 rfl he1 rfl rfl (by decide) inJx4a65c w_109 rfl ?_
  refine g_callV (n := 23) (As := [.ref _, .ref _, .int _]) C dJx4a65c_add_9ea2d_20 rfl mw_Jx4a65c_add_72be8 w_780 (g_recv C he1 rfl) rfl rfl (room hR rfl) (ct_add2 he1 (isO_set he hv) hn (alF_set he hl) (fun e M g hq hea h1 h2 h3 => ?_))
  refine g_iconst (n := 24) (v := 1) C dJx4a65c_add_9ea2d_23 rfl (by decide) ?_
  refine g_zret C dJx4a65c_add_9ea2d_24 (by decide) (by decide) (by rfl) ?_
  rw [hset_sw hea.symm, hset_hset, ← hset_sw hea.symm]
  exact hp e M g (hq.imp id (fun z => by rw [hset_ne _ _ hea] at z; exact z)) hea h1 h2 h3
