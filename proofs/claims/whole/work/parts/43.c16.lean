/-- as far as pit p goes, another may be sunk at s -/
def cok (A : Nat → Nat → Int32) (ap s : Int32) (p : Nat) : Prop := ¬ A 3 p = s ∧ (¬ A 6 p = -1 ∨ ap ≤ rapart (A 3 p) s)
/-- the list's things are the pits of A -/
def cpits (h : AH) (A : Nat → Nat → Int32) (f : Nat → Option Nat) (pa : Nat → Nat) (n : Nat) : Prop := ∀ i, i < n → f i = some (pa i) ∧ h (pa i) = some (.inr (5, [.int (A 3 i), .int (A 4 i), .int (A 7 i), .int (A 8 i), .int (A 5 i), .int (A 6 i)]))
theorem dX2_openPits_0 : decode cX2_openPits 0 = .ok (.iconst 0, 1) := by decide +kernel
theorem dX2_openPits_1 : decode cX2_openPits 1 = .ok (.istore_n 1, 1) := by decide +kernel
theorem dX2_openPits_2 : decode cX2_openPits 2 = .ok (.iconst 0, 1) := by decide +kernel
theorem dX2_openPits_3 : decode cX2_openPits 3 = .ok (.istore_n 2, 1) := by decide +kernel
theorem dX2_openPits_4 : decode cX2_openPits 4 = .ok (.iload_n 2, 1) := by decide +kernel
theorem dX2_openPits_5 : decode cX2_openPits 5 = .ok (.aload_n 0, 1) := by decide +kernel
theorem dX2_openPits_6 : decode cX2_openPits 6 = .ok (.getfield 12, 3) := by decide +kernel
theorem dX2_openPits_9 : decode cX2_openPits 9 = .ok (.invokevirtual 45, 3) := by decide +kernel
theorem dX2_openPits_12 : decode cX2_openPits 12 = .ok (.if_icmp .ge 29, 3) := by decide +kernel
theorem dX2_openPits_15 : decode cX2_openPits 15 = .ok (.aload_n 0, 1) := by decide +kernel
theorem dX2_openPits_16 : decode cX2_openPits 16 = .ok (.getfield 12, 3) := by decide +kernel
theorem dX2_openPits_19 : decode cX2_openPits 19 = .ok (.iload_n 2, 1) := by decide +kernel
theorem dX2_openPits_20 : decode cX2_openPits 20 = .ok (.invokevirtual 49, 3) := by decide +kernel
theorem dX2_openPits_23 : decode cX2_openPits 23 = .ok (.checkcast 53, 3) := by decide +kernel
theorem dX2_openPits_26 : decode cX2_openPits 26 = .ok (.invokevirtual 68, 3) := by decide +kernel
theorem dX2_openPits_29 : decode cX2_openPits 29 = .ok (.ifCond .ne 6, 3) := by decide +kernel
theorem dX2_openPits_32 : decode cX2_openPits 32 = .ok (.iinc 1 1, 3) := by decide +kernel
theorem dX2_openPits_35 : decode cX2_openPits 35 = .ok (.iinc 2 1, 3) := by decide +kernel
theorem dX2_openPits_38 : decode cX2_openPits 38 = .ok (.goto (-34), 3) := by decide +kernel
theorem dX2_openPits_41 : decode cX2_openPits 41 = .ok (.iload_n 1, 1) := by decide +kernel
theorem dX2_openPits_42 : decode cX2_openPits 42 = .ok (.ireturn, 1) := by decide +kernel
set_option maxHeartbeats 400000 in
set_option maxRecDepth 20000 in
theorem cc_gopen {l : Launch} {E : Ev} {P : Value → AH → Prop}  {k al le gr lw : Nat} {sp to : Int32} {h : AH} (hk : h k = some (.inr (2, [.ref al, .ref le, .ref gr, .ref lw, .int sp, .int to]))) {d n : Nat} {mc : Int32} (he : h al = some (.inr (0, [.int mc, .ref d, .int (nI n)]))) {N : Nat} {f : Nat → Option Nat} (hd : n ≠ 0 → h d = some (eQ E N f)) (hnN : n ≤ N) (hN : N ≤ 100) {A : Nat → Nat → Int32} {pa : Nat → Nat} (hpa : cpits h A f pa n) (hp : P (.int (rcnt (fun i => A 6 i = -1) n)) h) : Mt l E yX2_openPits cX2_openPits 3 (some .int) 3 64 0 0 [.ref k] (h) P := by
  refine Mt.of (by decide) (Nat.le_of_ble_eq_true rfl) ?_
  intro K hK hR C
  refine g_iconst (n := 1) (v := 0) C dX2_openPits_0 rfl (by decide) ?_
  refine g_istore_n (n := 2) C dX2_openPits_1 rfl (by decide) ?_
  refine g_iconst (n := 3) (v := 0) C dX2_openPits_2 rfl (by decide) ?_
  refine g_istore_n (n := 4) C dX2_openPits_3 rfl (by decide) ?_
  have lp : ∀ p : Nat, p ≤ n → ∀ (v t9 : Int32), v = rcnt (fun i => A 6 i = -1) p → t9 = nI p → G K E 3 (QM K E (some .int) 0 0 P) 0 0 4 [(0, .ref k), (1, .int v), (2, .int t9)] [] (h) := by
    refine loopN (fun p => ∀ (v t9 : Int32), v = rcnt (fun i => A 6 i = -1) p → t9 = nI p → G K E 3 (QM K E (some .int) 0 0 P) 0 0 4 [(0, .ref k), (1, .int v), (2, .int t9)] [] (h)) (n) ?_
    intro p hlep ihp v t9 ev et
    subst et
    refine g_iload_n (n := 5) C dX2_openPits_4 rfl rfl ?_
    refine g_aload_n (n := 6) C dX2_openPits_5 rfl rfl ?_
    refine g_get (n := 9) (T := TX2) C 0 dX2_openPits_6 rfl hk rfl rfl (by decide) inX2 w_146 rfl ?_
    refine g_callV (n := 12) (As := []) C dX2_openPits_9 rfl mw_Jx4a65c_size_8abf5 w_294 (g_recv C he rfl) rfl rfl (room hR rfl) (ct_alSize he ?_)
    refine g_icmp_ge (n := 15) (t := 41) C dX2_openPits_12 rfl (by decide) (fun zc12 => ?_) (fun zc12 => ?_)
    · --t12
      refine g_iload_n (n := 42) C dX2_openPits_41 rfl rfl ?_
      refine g_iret C dX2_openPits_42 (by decide) (by decide) ?_
      have ep : p = n := i_eq (x := nI n) rfl zc12 hlep (by omega)
      subst ep
      rw [ev]
      exact hp
    · --f12
      refine g_aload_n (n := 16) C dX2_openPits_15 rfl rfl ?_
      refine g_get (n := 19) (T := TX2) C 0 dX2_openPits_16 rfl hk rfl rfl (by decide) inX2 w_146 rfl ?_
      refine g_iload_n (n := 20) C dX2_openPits_19 rfl rfl ?_
      refine g_callV (n := 23) (As := [.int _]) C dX2_openPits_20 rfl mw_Jx4a65c_get_915e3 w_298 (g_recv C he rfl) rfl rfl (room hR rfl) (ct_alGet he (hd (by have := (i_lt (x := nI n) rfl zc12 hlep (by omega)); omega)) (i_lt (x := nI n) rfl zc12 hlep (by omega)) hnN hN (hpa p (i_lt (x := nI n) rfl zc12 hlep (by omega))).1 ?_)
      refine g_cast (n := 26) C dX2_openPits_23 rfl (hpa p (i_lt (x := nI n) rfl zc12 hlep (by omega))).2 rfl w_312 ?_
      refine g_callV (n := 29) (As := []) C dX2_openPits_26 rfl mw_X5_isFilled w_313 (g_recv C (hpa p (i_lt (x := nI n) rfl zc12 hlep (by omega))).2 rfl) rfl rfl (room hR rfl) (cc_isFilled (hpa p (i_lt (x := nI n) rfl zc12 hlep (by omega))).2 (fun za26 => ?_) (fun zb26 => ?_))
      · --k26.0
        refine g_if_ne (n := 32) (t := 35) C dX2_openPits_29 rfl (by decide) (fun zc29 => ?_) (fun zc29 => ?_)
        rotate_left
        · exact absurd zc29 (by decide)
        refine g_iinc (n := 38) C dX2_openPits_35 rfl rfl rfl (by decide) ?_
        refine g_goto (t := 4) C dX2_openPits_38 (by decide) ?_
        exact g_lv [0, 1, 2] rfl (ihp (i_lt (x := nI n) rfl zc12 hlep (by omega)) _ _ (by rw [ev]; first | exact rcnt_1 zb26 | exact rcnt_k za26) (nI_1 p))
      · --k26.1
        refine g_if_ne (n := 32) (t := 35) C dX2_openPits_29 rfl (by decide) (fun zc29 => ?_) (fun zc29 => ?_)
        · exact absurd zc29 (by decide)
        refine g_iinc (n := 35) C dX2_openPits_32 rfl rfl rfl (by decide) ?_
        refine g_iinc (n := 38) C dX2_openPits_35 rfl rfl rfl (by decide) ?_
        refine g_goto (t := 4) C dX2_openPits_38 (by decide) ?_
        exact g_lv [0, 1, 2] rfl (ihp (i_lt (x := nI n) rfl zc12 hlep (by omega)) _ _ (by rw [ev]; first | exact rcnt_1 zb26 | exact rcnt_k za26) (nI_1 p))
  exact g_lv [0, 1, 2] rfl (lp 0 (Nat.zero_le _) _ _ rfl rfl)
theorem dX2_maySink_0 : decode cX2_maySink 0 = .ok (.iconst 0, 1) := by decide +kernel
theorem dX2_maySink_1 : decode cX2_maySink 1 = .ok (.istore_n 2, 1) := by decide +kernel
theorem dX2_maySink_2 : decode cX2_maySink 2 = .ok (.iload_n 2, 1) := by decide +kernel
theorem dX2_maySink_3 : decode cX2_maySink 3 = .ok (.aload_n 0, 1) := by decide +kernel
theorem dX2_maySink_4 : decode cX2_maySink 4 = .ok (.getfield 12, 3) := by decide +kernel
theorem dX2_maySink_7 : decode cX2_maySink 7 = .ok (.invokevirtual 45, 3) := by decide +kernel
theorem dX2_maySink_10 : decode cX2_maySink 10 = .ok (.if_icmp .ge 58, 3) := by decide +kernel
theorem dX2_maySink_13 : decode cX2_maySink 13 = .ok (.aload_n 0, 1) := by decide +kernel
theorem dX2_maySink_14 : decode cX2_maySink 14 = .ok (.getfield 12, 3) := by decide +kernel
theorem dX2_maySink_17 : decode cX2_maySink 17 = .ok (.iload_n 2, 1) := by decide +kernel
theorem dX2_maySink_18 : decode cX2_maySink 18 = .ok (.invokevirtual 49, 3) := by decide +kernel
theorem dX2_maySink_21 : decode cX2_maySink 21 = .ok (.checkcast 53, 3) := by decide +kernel
theorem dX2_maySink_24 : decode cX2_maySink 24 = .ok (.astore_n 3, 1) := by decide +kernel
theorem dX2_maySink_25 : decode cX2_maySink 25 = .ok (.aload_n 3, 1) := by decide +kernel
theorem dX2_maySink_26 : decode cX2_maySink 26 = .ok (.getfield 65, 3) := by decide +kernel
theorem dX2_maySink_29 : decode cX2_maySink 29 = .ok (.iload_n 1, 1) := by decide +kernel
theorem dX2_maySink_30 : decode cX2_maySink 30 = .ok (.if_icmp .ne 5, 3) := by decide +kernel
theorem dX2_maySink_33 : decode cX2_maySink 33 = .ok (.iconst 0, 1) := by decide +kernel
theorem dX2_maySink_34 : decode cX2_maySink 34 = .ok (.ireturn, 1) := by decide +kernel
theorem dX2_maySink_35 : decode cX2_maySink 35 = .ok (.aload_n 3, 1) := by decide +kernel
theorem dX2_maySink_36 : decode cX2_maySink 36 = .ok (.invokevirtual 68, 3) := by decide +kernel
theorem dX2_maySink_39 : decode cX2_maySink 39 = .ok (.ifCond .ne 23, 3) := by decide +kernel
theorem dX2_maySink_42 : decode cX2_maySink 42 = .ok (.aload_n 3, 1) := by decide +kernel
theorem dX2_maySink_43 : decode cX2_maySink 43 = .ok (.getfield 65, 3) := by decide +kernel
theorem dX2_maySink_46 : decode cX2_maySink 46 = .ok (.iload_n 1, 1) := by decide +kernel
theorem dX2_maySink_47 : decode cX2_maySink 47 = .ok (.invokestatic 72, 3) := by decide +kernel
theorem dX2_maySink_50 : decode cX2_maySink 50 = .ok (.aload_n 0, 1) := by decide +kernel
theorem dX2_maySink_51 : decode cX2_maySink 51 = .ok (.getfield 28, 3) := by decide +kernel
theorem dX2_maySink_54 : decode cX2_maySink 54 = .ok (.getfield 75, 3) := by decide +kernel
theorem dX2_maySink_57 : decode cX2_maySink 57 = .ok (.if_icmp .ge 5, 3) := by decide +kernel
theorem dX2_maySink_60 : decode cX2_maySink 60 = .ok (.iconst 0, 1) := by decide +kernel
theorem dX2_maySink_61 : decode cX2_maySink 61 = .ok (.ireturn, 1) := by decide +kernel
theorem dX2_maySink_62 : decode cX2_maySink 62 = .ok (.iinc 2 1, 3) := by decide +kernel
theorem dX2_maySink_65 : decode cX2_maySink 65 = .ok (.goto (-63), 3) := by decide +kernel
theorem dX2_maySink_68 : decode cX2_maySink 68 = .ok (.iconst 1, 1) := by decide +kernel
theorem dX2_maySink_69 : decode cX2_maySink 69 = .ok (.ireturn, 1) := by decide +kernel
set_option maxHeartbeats 1000000 in
set_option maxRecDepth 20000 in
theorem cc_gmay {l : Launch} {E : Ev} {P : Value → AH → Prop}  {k al le gr lw : Nat} {sp to : Int32} {h : AH} (hk : h k = some (.inr (2, [.ref al, .ref le, .ref gr, .ref lw, .int sp, .int to]))) {d n : Nat} {mc : Int32} (he : h al = some (.inr (0, [.int mc, .ref d, .int (nI n)]))) {N : Nat} {f : Nat → Option Nat} (hd : n ≠ 0 → h d = some (eQ E N f)) (hnN : n ≤ N) (hN : N ≤ 100) {A : Nat → Nat → Int32} {pa : Nat → Nat} (hpa : cpits h A f pa n) {ap fd bo s9 : Int32} (hlw : h lw = some (.inr (3, [.int ap, .int fd, .int bo]))) (k1 : (∀ i, i < n → cok A ap s9 i) → P (.int 1) h) (k0 : ¬ (∀ i, i < n → cok A ap s9 i) → P (.int 0) h) : Mt l E yX2_maySink cX2_maySink 4 (some .boolean) 3 64 0 0 [.ref k, .int s9] (h) P := by
  refine Mt.of (by decide) (Nat.le_of_ble_eq_true rfl) ?_
  intro K hK hR C
  refine g_iconst (n := 1) (v := 0) C dX2_maySink_0 rfl (by decide) ?_
  refine g_istore_n (n := 2) C dX2_maySink_1 rfl (by decide) ?_
  have lp : ∀ p : Nat, p ≤ n → ∀ (t9 : Int32), (∀ i, i < p → cok A ap s9 i) → t9 = nI p → G K E 4 (QM K E (some .boolean) 0 0 P) 0 0 2 [(0, .ref k), (1, .int s9), (2, .int t9)] [] (h) := by
    refine loopN (fun p => ∀ (t9 : Int32), (∀ i, i < p → cok A ap s9 i) → t9 = nI p → G K E 4 (QM K E (some .boolean) 0 0 P) 0 0 2 [(0, .ref k), (1, .int s9), (2, .int t9)] [] (h)) (n) ?_
    intro p hlep ihp t9 ev et
    subst et
    refine g_iload_n (n := 3) C dX2_maySink_2 rfl rfl ?_
    refine g_aload_n (n := 4) C dX2_maySink_3 rfl rfl ?_
    refine g_get (n := 7) (T := TX2) C 0 dX2_maySink_4 rfl hk rfl rfl (by decide) inX2 w_146 rfl ?_
    refine g_callV (n := 10) (As := []) C dX2_maySink_7 rfl mw_Jx4a65c_size_8abf5 w_294 (g_recv C he rfl) rfl rfl (room hR rfl) (ct_alSize he ?_)
    refine g_icmp_ge (n := 13) (t := 68) C dX2_maySink_10 rfl (by decide) (fun zc10 => ?_) (fun zc10 => ?_)
    · --t10
      refine g_iconst (n := 69) (v := 1) C dX2_maySink_68 rfl (by decide) ?_
      refine g_zret C dX2_maySink_69 (by decide) (by decide) (by rfl) ?_
      have ep : p = n := i_eq (x := nI n) rfl zc10 hlep (by omega)
      rw [ep] at ev
      exact k1 ev
    · --f10
      refine g_aload_n (n := 14) C dX2_maySink_13 rfl rfl ?_
      refine g_get (n := 17) (T := TX2) C 0 dX2_maySink_14 rfl hk rfl rfl (by decide) inX2 w_146 rfl ?_
      refine g_iload_n (n := 18) C dX2_maySink_17 rfl rfl ?_
      refine g_callV (n := 21) (As := [.int _]) C dX2_maySink_18 rfl mw_Jx4a65c_get_915e3 w_298 (g_recv C he rfl) rfl rfl (room hR rfl) (ct_alGet he (hd (by have := (i_lt (x := nI n) rfl zc10 hlep (by omega)); omega)) (i_lt (x := nI n) rfl zc10 hlep (by omega)) hnN hN (hpa p (i_lt (x := nI n) rfl zc10 hlep (by omega))).1 ?_)
      refine g_cast (n := 24) C dX2_maySink_21 rfl (hpa p (i_lt (x := nI n) rfl zc10 hlep (by omega))).2 rfl w_312 ?_
      refine g_astore_n (n := 25) C dX2_maySink_24 rfl (by decide) ?_
      refine g_aload_n (n := 26) C dX2_maySink_25 rfl rfl ?_
      refine g_get (n := 29) (T := TX5) C 0 dX2_maySink_26 rfl (hpa p (i_lt (x := nI n) rfl zc10 hlep (by omega))).2 rfl rfl (by decide) inX5 w_750 rfl ?_
      refine g_iload_n (n := 30) C dX2_maySink_29 rfl rfl ?_
      refine g_icmp_ne (n := 33) (t := 35) C dX2_maySink_30 rfl (by decide) (fun zc30 => ?_) (fun zc30 => ?_)
      · --t30
        refine g_aload_n (n := 36) C dX2_maySink_35 rfl rfl ?_
        refine g_callV (n := 39) (As := []) C dX2_maySink_36 rfl mw_X5_isFilled w_313 (g_recv C (hpa p (i_lt (x := nI n) rfl zc10 hlep (by omega))).2 rfl) rfl rfl (room hR rfl) (cc_isFilled (hpa p (i_lt (x := nI n) rfl zc10 hlep (by omega))).2 (fun za36 => ?_) (fun zb36 => ?_))
        · --k36.0
          refine g_if_ne (n := 42) (t := 62) C dX2_maySink_39 rfl (by decide) (fun zc39 => ?_) (fun zc39 => ?_)
          rotate_left
          · exact absurd zc39 (by decide)
          refine g_iinc (n := 65) C dX2_maySink_62 rfl rfl rfl (by decide) ?_
          refine g_goto (t := 2) C dX2_maySink_65 (by decide) ?_
          exact g_lv [0, 1, 2] rfl (ihp (i_lt (x := nI n) rfl zc10 hlep (by omega)) _ (fun i hi => by rcases Nat.lt_succ_iff_lt_or_eq.mp hi with q9 | q9; exact ev i q9; rw [q9]; first | exact ⟨zc30, Or.inl za36⟩ | exact ⟨zc30, Or.inr zc57⟩) (nI_1 p))
        · --k36.1
          refine g_if_ne (n := 42) (t := 62) C dX2_maySink_39 rfl (by decide) (fun zc39 => ?_) (fun zc39 => ?_)
          · exact absurd zc39 (by decide)
          refine g_aload_n (n := 43) C dX2_maySink_42 rfl rfl ?_
          refine g_get (n := 46) (T := TX5) C 0 dX2_maySink_43 rfl (hpa p (i_lt (x := nI n) rfl zc10 hlep (by omega))).2 rfl rfl (by decide) inX5 w_750 rfl ?_
          refine g_iload_n (n := 47) C dX2_maySink_46 rfl rfl ?_
          refine g_callS (n := 50) (As := [.int _, .int _]) C dX2_maySink_47 rfl mw_X2_stepsApart w_317 rfl rfl (room hR rfl) (cc_apart ?_)
          refine g_aload_n (n := 51) C dX2_maySink_50 rfl rfl ?_
          refine g_get (n := 54) (T := TX2) C 3 dX2_maySink_51 rfl hk rfl rfl (by decide) inX2 w_149 rfl ?_
          refine g_get (n := 57) (T := TX3) C 0 dX2_maySink_54 rfl hlw rfl rfl (by decide) inX3 w_130 rfl ?_
          refine g_icmp_ge (n := 60) (t := 62) C dX2_maySink_57 rfl (by decide) (fun zc57 => ?_) (fun zc57 => ?_)
          · --t57
            refine g_iinc (n := 65) C dX2_maySink_62 rfl rfl rfl (by decide) ?_
            refine g_goto (t := 2) C dX2_maySink_65 (by decide) ?_
            exact g_lv [0, 1, 2] rfl (ihp (i_lt (x := nI n) rfl zc10 hlep (by omega)) _ (fun i hi => by rcases Nat.lt_succ_iff_lt_or_eq.mp hi with q9 | q9; exact ev i q9; rw [q9]; first | exact ⟨zc30, Or.inl za36⟩ | exact ⟨zc30, Or.inr zc57⟩) (nI_1 p))
          · --f57
            refine g_iconst (n := 61) (v := 0) C dX2_maySink_60 rfl (by decide) ?_
            refine g_zret C dX2_maySink_61 (by decide) (by decide) (by rfl) ?_
            first | exact k0 (fun zq => (zq p (i_lt (x := nI n) rfl zc10 hlep (by omega))).1 zc30) | exact k0 (fun zq => (zq p (i_lt (x := nI n) rfl zc10 hlep (by omega))).2.elim (fun z => z zb36) (fun z => zc57 z))
      · --f30
        refine g_iconst (n := 34) (v := 0) C dX2_maySink_33 rfl (by decide) ?_
        refine g_zret C dX2_maySink_34 (by decide) (by decide) (by rfl) ?_
        first | exact k0 (fun zq => (zq p (i_lt (x := nI n) rfl zc10 hlep (by omega))).1 zc30) | exact k0 (fun zq => (zq p (i_lt (x := nI n) rfl zc10 hlep (by omega))).2.elim (fun z => z zb36) (fun z => zc57 z))
  exact g_lv [0, 1, 2] rfl (lp 0 (Nat.zero_le _) _ (fun i hi => absurd hi (Nat.not_lt_zero i)) rfl)
theorem dX2_bonds_0 : decode cX2_bonds 0 = .ok (.iconst 0, 1) := by decide +kernel
theorem dX2_bonds_1 : decode cX2_bonds 1 = .ok (.istore_n 2, 1) := by decide +kernel
theorem dX2_bonds_2 : decode cX2_bonds 2 = .ok (.iconst 0, 1) := by decide +kernel
theorem dX2_bonds_3 : decode cX2_bonds 3 = .ok (.istore_n 3, 1) := by decide +kernel
theorem dX2_bonds_4 : decode cX2_bonds 4 = .ok (.iload_n 3, 1) := by decide +kernel
theorem dX2_bonds_5 : decode cX2_bonds 5 = .ok (.aload_n 0, 1) := by decide +kernel
theorem dX2_bonds_6 : decode cX2_bonds 6 = .ok (.getfield 12, 3) := by decide +kernel
theorem dX2_bonds_9 : decode cX2_bonds 9 = .ok (.invokevirtual 45, 3) := by decide +kernel
theorem dX2_bonds_12 : decode cX2_bonds 12 = .ok (.if_icmp .ge 43, 3) := by decide +kernel
theorem dX2_bonds_15 : decode cX2_bonds 15 = .ok (.aload_n 0, 1) := by decide +kernel
theorem dX2_bonds_16 : decode cX2_bonds 16 = .ok (.getfield 12, 3) := by decide +kernel
theorem dX2_bonds_19 : decode cX2_bonds 19 = .ok (.iload_n 3, 1) := by decide +kernel
theorem dX2_bonds_20 : decode cX2_bonds 20 = .ok (.invokevirtual 49, 3) := by decide +kernel
theorem dX2_bonds_23 : decode cX2_bonds 23 = .ok (.checkcast 53, 3) := by decide +kernel
theorem dX2_bonds_26 : decode cX2_bonds 26 = .ok (.astore 4, 2) := by decide +kernel
theorem dX2_bonds_28 : decode cX2_bonds 28 = .ok (.aload 4, 2) := by decide +kernel
theorem dX2_bonds_30 : decode cX2_bonds 30 = .ok (.aload_n 0, 1) := by decide +kernel
theorem dX2_bonds_31 : decode cX2_bonds 31 = .ok (.getfield 36, 3) := by decide +kernel
theorem dX2_bonds_34 : decode cX2_bonds 34 = .ok (.invokevirtual 95, 3) := by decide +kernel
theorem dX2_bonds_37 : decode cX2_bonds 37 = .ok (.iload_n 1, 1) := by decide +kernel
theorem dX2_bonds_38 : decode cX2_bonds 38 = .ok (.if_icmp .ne 11, 3) := by decide +kernel
theorem dX2_bonds_41 : decode cX2_bonds 41 = .ok (.iload_n 2, 1) := by decide +kernel
theorem dX2_bonds_42 : decode cX2_bonds 42 = .ok (.aload 4, 2) := by decide +kernel
theorem dX2_bonds_44 : decode cX2_bonds 44 = .ok (.getfield 99, 3) := by decide +kernel
theorem dX2_bonds_47 : decode cX2_bonds 47 = .ok (.iadd, 1) := by decide +kernel
theorem dX2_bonds_48 : decode cX2_bonds 48 = .ok (.istore_n 2, 1) := by decide +kernel
theorem dX2_bonds_49 : decode cX2_bonds 49 = .ok (.iinc 3 1, 3) := by decide +kernel
theorem dX2_bonds_52 : decode cX2_bonds 52 = .ok (.goto (-48), 3) := by decide +kernel
theorem dX2_bonds_55 : decode cX2_bonds 55 = .ok (.iload_n 2, 1) := by decide +kernel
theorem dX2_bonds_56 : decode cX2_bonds 56 = .ok (.ireturn, 1) := by decide +kernel
set_option maxHeartbeats 400000 in
set_option maxRecDepth 20000 in
theorem cc_gbonds {l : Launch} {E : Ev} {P : Value → AH → Prop}  {k al le gr lw : Nat} {sp to : Int32} {h : AH} (hk : h k = some (.inr (2, [.ref al, .ref le, .ref gr, .ref lw, .int sp, .int to]))) {d n : Nat} {mc : Int32} (he : h al = some (.inr (0, [.int mc, .ref d, .int (nI n)]))) {N : Nat} {f : Nat → Option Nat} (hd : n ≠ 0 → h d = some (eQ E N f)) (hnN : n ≤ N) (hN : N ≤ 100) {A : Nat → Nat → Int32} {pa : Nat → Nat} (hpa : cpits h A f pa n) {w9 : Int32} (hp : P (.int (rsum (fun i => cbond (A 8 i) (A 6 i) (A 7 i) to = w9) (A 8) n)) h) : Mt l E yX2_bonds cX2_bonds 5 (some .int) 3 64 0 0 [.ref k, .int w9] (h) P := by
  refine Mt.of (by decide) (Nat.le_of_ble_eq_true rfl) ?_
  intro K hK hR C
  refine g_iconst (n := 1) (v := 0) C dX2_bonds_0 rfl (by decide) ?_
  refine g_istore_n (n := 2) C dX2_bonds_1 rfl (by decide) ?_
  refine g_iconst (n := 3) (v := 0) C dX2_bonds_2 rfl (by decide) ?_
  refine g_istore_n (n := 4) C dX2_bonds_3 rfl (by decide) ?_
  have lp : ∀ p : Nat, p ≤ n → ∀ (v t9 : Int32), v = rsum (fun i => cbond (A 8 i) (A 6 i) (A 7 i) to = w9) (A 8) p → t9 = nI p → G K E 5 (QM K E (some .int) 0 0 P) 0 0 4 [(0, .ref k), (1, .int w9), (2, .int v), (3, .int t9)] [] (h) := by
    refine loopN (fun p => ∀ (v t9 : Int32), v = rsum (fun i => cbond (A 8 i) (A 6 i) (A 7 i) to = w9) (A 8) p → t9 = nI p → G K E 5 (QM K E (some .int) 0 0 P) 0 0 4 [(0, .ref k), (1, .int w9), (2, .int v), (3, .int t9)] [] (h)) (n) ?_
    intro p hlep ihp v t9 ev et
    subst et
    refine g_iload_n (n := 5) C dX2_bonds_4 rfl rfl ?_
    refine g_aload_n (n := 6) C dX2_bonds_5 rfl rfl ?_
    refine g_get (n := 9) (T := TX2) C 0 dX2_bonds_6 rfl hk rfl rfl (by decide) inX2 w_146 rfl ?_
    refine g_callV (n := 12) (As := []) C dX2_bonds_9 rfl mw_Jx4a65c_size_8abf5 w_294 (g_recv C he rfl) rfl rfl (room hR rfl) (ct_alSize he ?_)
    refine g_icmp_ge (n := 15) (t := 55) C dX2_bonds_12 rfl (by decide) (fun zc12 => ?_) (fun zc12 => ?_)
    · --t12
      refine g_iload_n (n := 56) C dX2_bonds_55 rfl rfl ?_
      refine g_iret C dX2_bonds_56 (by decide) (by decide) ?_
      have ep : p = n := i_eq (x := nI n) rfl zc12 hlep (by omega)
      subst ep
      rw [ev]
      exact hp
    · --f12
      refine g_aload_n (n := 16) C dX2_bonds_15 rfl rfl ?_
      refine g_get (n := 19) (T := TX2) C 0 dX2_bonds_16 rfl hk rfl rfl (by decide) inX2 w_146 rfl ?_
      refine g_iload_n (n := 20) C dX2_bonds_19 rfl rfl ?_
      refine g_callV (n := 23) (As := [.int _]) C dX2_bonds_20 rfl mw_Jx4a65c_get_915e3 w_298 (g_recv C he rfl) rfl rfl (room hR rfl) (ct_alGet he (hd (by have := (i_lt (x := nI n) rfl zc12 hlep (by omega)); omega)) (i_lt (x := nI n) rfl zc12 hlep (by omega)) hnN hN (hpa p (i_lt (x := nI n) rfl zc12 hlep (by omega))).1 ?_)
      refine g_cast (n := 26) C dX2_bonds_23 rfl (hpa p (i_lt (x := nI n) rfl zc12 hlep (by omega))).2 rfl w_312 ?_
      refine g_astore (n := 28) C dX2_bonds_26 rfl (by decide) ?_
      refine g_aload (n := 30) C dX2_bonds_28 rfl rfl ?_
      refine g_aload_n (n := 31) C dX2_bonds_30 rfl rfl ?_
      refine g_get (n := 34) (T := TX2) C 5 dX2_bonds_31 rfl hk rfl rfl (by decide) inX2 w_151 rfl ?_
      refine g_callV (n := 37) (As := [.int _]) C dX2_bonds_34 rfl mw_X5_bondState w_401 (g_recv C (hpa p (i_lt (x := nI n) rfl zc12 hlep (by omega))).2 rfl) rfl rfl (room hR rfl) (cc_bond (hpa p (i_lt (x := nI n) rfl zc12 hlep (by omega))).2 ?_)
      refine g_iload_n (n := 38) C dX2_bonds_37 rfl rfl ?_
      refine g_icmp_ne (n := 41) (t := 49) C dX2_bonds_38 rfl (by decide) (fun zc38 => ?_) (fun zc38 => ?_)
      · --t38
        refine g_iinc (n := 52) C dX2_bonds_49 rfl rfl rfl (by decide) ?_
        refine g_goto (t := 4) C dX2_bonds_52 (by decide) ?_
        exact g_lv [0, 1, 2, 3] rfl (ihp (i_lt (x := nI n) rfl zc12 hlep (by omega)) _ _ (by rw [ev]; first | exact rsum_1 zc38 | exact (Int32.add_zero _).symm.trans (rsum_0 zc38)) (nI_1 p))
      · --f38
        refine g_iload_n (n := 42) C dX2_bonds_41 rfl rfl ?_
        refine g_aload (n := 44) C dX2_bonds_42 rfl rfl ?_
        refine g_get (n := 47) (T := TX5) C 3 dX2_bonds_44 rfl (hpa p (i_lt (x := nI n) rfl zc12 hlep (by omega))).2 rfl rfl (by decide) inX5 w_757 rfl ?_
        refine g_iadd (n := 48) C dX2_bonds_47 rfl ?_
        refine g_istore_n (n := 49) C dX2_bonds_48 rfl (by decide) ?_
        refine g_iinc (n := 52) C dX2_bonds_49 rfl rfl rfl (by decide) ?_
        refine g_goto (t := 4) C dX2_bonds_52 (by decide) ?_
        exact g_lv [0, 1, 2, 3] rfl (ihp (i_lt (x := nI n) rfl zc12 hlep (by omega)) _ _ (by rw [ev]; first | exact rsum_1 zc38 | exact (Int32.add_zero _).symm.trans (rsum_0 zc38)) (nI_1 p))
  exact g_lv [0, 1, 2, 3] rfl (lp 0 (Nat.zero_le _) _ _ rfl rfl)
