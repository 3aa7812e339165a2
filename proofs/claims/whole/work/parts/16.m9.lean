/-! the reference's tape and its reading -/
def pF (F : Nat → Int32) (q b : Nat) : Nat → Int32 := upd (upd F 16 (nI q)) 18 (nI b)
theorem pF_up (F : Nat → Int32) (q b q' : Nat) : upd (pF F q b) 16 (nI q') = pF F q' b := by
  funext k
  unfold pF upd
  by_cases h : k = 18 <;> by_cases h2 : k = 16 <;> simp [h, h2]
theorem pF_inc (F : Nat → Int32) (q b : Nat) : upd (pF F q b) 16 (pF F q b 16 + 1) = pF F (q + 1) b := by
  rw [show pF F q b 16 + 1 = nI (q + 1) from nI_1 q, pF_up]
theorem pF_bg (F : Nat → Int32) (q b : Nat) : upd (pF F q b) 18 (pF F q b 16) = pF F q q := by
  funext k
  unfold pF upd
  by_cases h : k = 18 <;> by_cases h2 : k = 16 <;> simp [h, h2]
theorem pF_ne (F : Nat → Int32) (q b : Nat) {k : Nat} (h : k ≠ 16) (h2 : k ≠ 18) : pF F q b k = F k := by
  unfold pF upd
  rw [if_neg h2, if_neg h]
/-- before place e there stands at q a byte of lo to hi -/
abbrev atc (T : Nat → Int32) (e q : Nat) (lo hi : Int32) : Prop := q < e ∧ lo ≤ T q ∧ T q ≤ hi
def rscF (T : Nat → Int32) (lo hi : Int32) (e : Nat) : Nat → Nat → Nat
  | 0, p => p
  | f + 1, p => if atc T e p lo hi then rscF T lo hi e f (p + 1) else p
/-- the first place from p on without a byte of lo to hi -/
def rsc (T : Nat → Int32) (lo hi : Int32) (e p : Nat) : Nat := rscF T lo hi e (e - p) p
theorem rsc_s {T : Nat → Int32} {lo hi : Int32} {e p : Nat} (h : atc T e p lo hi) : rsc T lo hi e p = rsc T lo hi e (p + 1) := by
  unfold rsc
  rw [show e - p = (e - (p + 1)) + 1 from by have := h.1; omega]
  show (if _ then _ else _) = _
  rw [if_pos h]
theorem rsc_0 {T : Nat → Int32} {lo hi : Int32} {e p : Nat} (h : ¬ atc T e p lo hi) : rsc T lo hi e p = p := by
  unfold rsc
  cases e - p with
  | zero => rfl
  | succ f => show (if _ then _ else _) = _; rw [if_neg h]
theorem rscF_ge (T : Nat → Int32) (lo hi : Int32) (e : Nat) : ∀ f p, p ≤ rscF T lo hi e f p
  | 0, p => Nat.le_refl p
  | f + 1, p => by
    unfold rscF
    by_cases h : atc T e p lo hi
    · rw [if_pos h]
      exact Nat.le_trans (Nat.le_succ p) (rscF_ge T lo hi e f (p + 1))
    · rw [if_neg h]
      exact Nat.le_refl p
theorem rsc_ge (T : Nat → Int32) (lo hi : Int32) (e p : Nat) : p ≤ rsc T lo hi e p := rscF_ge T lo hi e _ p
theorem rscF_le (T : Nat → Int32) (lo hi : Int32) (e : Nat) : ∀ f p, p ≤ e → rscF T lo hi e f p ≤ e
  | 0, p, hp => hp
  | f + 1, p, hp => by
    unfold rscF
    by_cases h : atc T e p lo hi
    · rw [if_pos h]
      exact rscF_le T lo hi e f (p + 1) h.1
    · rw [if_neg h]
      exact hp
theorem rsc_le {T : Nat → Int32} {lo hi : Int32} {e p : Nat} (hp : p ≤ e) : rsc T lo hi e p ≤ e := rscF_le T lo hi e _ p hp
abbrev rbl (A : Nat → Nat → Int32) (e q : Nat) : Nat := rsc (A 14) 32 32 e q
abbrev rlt (A : Nat → Nat → Int32) (e q : Nat) : Nat := rsc (A 14) 97 122 e q
abbrev rdg (A : Nat → Nat → Int32) (e q : Nat) : Nat := rsc (A 14) 48 57 e q
/-- a number of n digits from b on, those past the sixth left out -/
def rnv (T : Nat → Int32) (b : Nat) : Nat → Int32
  | 0 => 0
  | k + 1 => if k < 6 then 10 * rnv T b k + T (b + k) - 48 else rnv T b k
theorem rnv_s {T : Nat → Int32} {b k : Nat} (h : k < 6) : 10 * rnv T b k + T (b + k) - 48 = rnv T b (k + 1) := by
  conv => rhs; unfold rnv
  rw [if_pos h]
theorem rnv_0 {T : Nat → Int32} {b k : Nat} (h : ¬ k < 6) : rnv T b k = rnv T b (k + 1) := by
  conv => rhs; unfold rnv
  rw [if_neg h]
/-- the digits b to r are a number from lo to hi -/
def rnok (T : Nat → Int32) (b r : Nat) (lo hi : Int32) : Prop := b < r ∧ r - b < 7 ∧ lo ≤ rnv T b (r - b) ∧ rnv T b (r - b) ≤ hi
theorem nI_big {a n : Nat} {k : Nat} (c : nI k ≤ nI a - nI n) (h : n ≤ a) (ha : a < 2147483648) (hk : k < 2147483648) : k ≤ a - n := by
  rw [pk_sub h] at c
  exact (nI_leI (by omega) (by omega)).mp c
theorem nI_sml {a n : Nat} {k : Nat} (c : ¬ nI k ≤ nI a - nI n) (h : n ≤ a) (ha : a < 2147483648) (hk : k < 2147483648) : a - n < k := by
  rw [pk_sub h] at c
  exact Nat.lt_of_not_le (fun q => c (nI_le q (by omega)))
theorem dX11_isAt_0 : decode cX11_isAt 0 = .ok (.aload_n 0, 1) := by decide +kernel
theorem dX11_isAt_1 : decode cX11_isAt 1 = .ok (.getfield 92, 3) := by decide +kernel
theorem dX11_isAt_4 : decode cX11_isAt 4 = .ok (.aload_n 0, 1) := by decide +kernel
theorem dX11_isAt_5 : decode cX11_isAt 5 = .ok (.getfield 95, 3) := by decide +kernel
theorem dX11_isAt_8 : decode cX11_isAt 8 = .ok (.if_icmp .ge 33, 3) := by decide +kernel
theorem dX11_isAt_11 : decode cX11_isAt 11 = .ok (.aload_n 0, 1) := by decide +kernel
theorem dX11_isAt_12 : decode cX11_isAt 12 = .ok (.getfield 41, 3) := by decide +kernel
theorem dX11_isAt_15 : decode cX11_isAt 15 = .ok (.aload_n 0, 1) := by decide +kernel
theorem dX11_isAt_16 : decode cX11_isAt 16 = .ok (.getfield 92, 3) := by decide +kernel
theorem dX11_isAt_19 : decode cX11_isAt 19 = .ok (.baload, 1) := by decide +kernel
theorem dX11_isAt_20 : decode cX11_isAt 20 = .ok (.iload_n 1, 1) := by decide +kernel
theorem dX11_isAt_21 : decode cX11_isAt 21 = .ok (.if_icmp .lt 20, 3) := by decide +kernel
theorem dX11_isAt_24 : decode cX11_isAt 24 = .ok (.aload_n 0, 1) := by decide +kernel
theorem dX11_isAt_25 : decode cX11_isAt 25 = .ok (.getfield 41, 3) := by decide +kernel
theorem dX11_isAt_28 : decode cX11_isAt 28 = .ok (.aload_n 0, 1) := by decide +kernel
theorem dX11_isAt_29 : decode cX11_isAt 29 = .ok (.getfield 92, 3) := by decide +kernel
theorem dX11_isAt_32 : decode cX11_isAt 32 = .ok (.baload, 1) := by decide +kernel
theorem dX11_isAt_33 : decode cX11_isAt 33 = .ok (.iload_n 2, 1) := by decide +kernel
theorem dX11_isAt_34 : decode cX11_isAt 34 = .ok (.if_icmp .gt 7, 3) := by decide +kernel
theorem dX11_isAt_37 : decode cX11_isAt 37 = .ok (.iconst 1, 1) := by decide +kernel
theorem dX11_isAt_38 : decode cX11_isAt 38 = .ok (.goto 4, 3) := by decide +kernel
theorem dX11_isAt_41 : decode cX11_isAt 41 = .ok (.iconst 0, 1) := by decide +kernel
theorem dX11_isAt_42 : decode cX11_isAt 42 = .ok (.ireturn, 1) := by decide +kernel
set_option maxHeartbeats 400000 in
set_option maxRecDepth 20000 in
theorem ct_isAt {l : Launch} {E : Ev} {P : Value → AH → Prop} {o : Nat} {ad : Nat → Nat} {F : Nat → Int32} {A : Nat → Nat → Int32} {h : AH} (I : mI o ad) {q b e : Nat} (he : F 17 = nI e) (hqe : q ≤ e) (he4 : e ≤ 400) {lo hi : Int32} (k1 : atc (A 14) e q lo hi → P (.int 1) (mh E o ad (pF F (q) (b)) A h)) (k0 : ¬ atc (A 14) e q lo hi → P (.int 0) (mh E o ad (pF F (q) (b)) A h)) : Mt l E yX11_isAt cX11_isAt 3 (some .boolean) 0 0 0 0 [.ref o, .int lo, .int hi] (mh E o ad (pF F (q) (b)) A h) P := by
  refine Mt.of (by decide) (Nat.le_of_ble_eq_true rfl) ?_
  intro K hK hR C
  refine g_aload_n (n := 1) C dX11_isAt_0 rfl rfl ?_
  refine m_get (n := 4) 16 C dX11_isAt_1 rfl (by decide) rfl w_1116 rfl ?_
  refine g_aload_n (n := 5) C dX11_isAt_4 rfl rfl ?_
  refine m_get (n := 8) 17 C dX11_isAt_5 rfl (by decide) rfl w_1117 rfl ?_
  refine g_icmp_ge (n := 11) (t := 41) C dX11_isAt_8 rfl (by decide) (fun zc8 => ?_) (fun zc8 => ?_)
  · --t8
    refine g_iconst (n := 42) (v := 0) C dX11_isAt_41 rfl (by decide) ?_
    refine g_zret C dX11_isAt_42 (by decide) (by decide) (by rfl) ?_
    first | exact k0 (fun zq => Int32.not_le.mpr zc21 zq.2.1) | exact k0 (fun zq => Int32.not_le.mpr zc34 zq.2.2) | exact k0 (fun zq => by have := i_eq (x := F 17) he zc8 hqe (by omega); have := zq.1; omega)
  · --f8
    refine g_aload_n (n := 12) C dX11_isAt_11 rfl rfl ?_
    refine m_get (n := 15) 14 C dX11_isAt_12 rfl (by decide) rfl w_1114 rfl ?_
    refine g_aload_n (n := 16) C dX11_isAt_15 rfl rfl ?_
    refine m_get (n := 19) 16 C dX11_isAt_16 rfl (by decide) rfl w_1116 rfl ?_
    refine m_bald (n := 20) 14 (q) C dX11_isAt_19 rfl I (by decide) rfl rfl (by have := (i_lt (x := F 17) he zc8 hqe (by omega)); omega) (by decide) rfl ?_
    refine g_iload_n (n := 21) C dX11_isAt_20 rfl rfl ?_
    refine g_icmp_lt (n := 24) (t := 41) C dX11_isAt_21 rfl (by decide) (fun zc21 => ?_) (fun zc21 => ?_)
    · --t21
      refine g_iconst (n := 42) (v := 0) C dX11_isAt_41 rfl (by decide) ?_
      refine g_zret C dX11_isAt_42 (by decide) (by decide) (by rfl) ?_
      first | exact k0 (fun zq => Int32.not_le.mpr zc21 zq.2.1) | exact k0 (fun zq => Int32.not_le.mpr zc34 zq.2.2) | exact k0 (fun zq => by have := i_eq (x := F 17) he zc8 hqe (by omega); have := zq.1; omega)
    · --f21
      refine g_aload_n (n := 25) C dX11_isAt_24 rfl rfl ?_
      refine m_get (n := 28) 14 C dX11_isAt_25 rfl (by decide) rfl w_1114 rfl ?_
      refine g_aload_n (n := 29) C dX11_isAt_28 rfl rfl ?_
      refine m_get (n := 32) 16 C dX11_isAt_29 rfl (by decide) rfl w_1116 rfl ?_
      refine m_bald (n := 33) 14 (q) C dX11_isAt_32 rfl I (by decide) rfl rfl (by have := (i_lt (x := F 17) he zc8 hqe (by omega)); omega) (by decide) rfl ?_
      refine g_iload_n (n := 34) C dX11_isAt_33 rfl rfl ?_
      refine g_icmp_gt (n := 37) (t := 41) C dX11_isAt_34 rfl (by decide) (fun zc34 => ?_) (fun zc34 => ?_)
      · --t34
        refine g_iconst (n := 42) (v := 0) C dX11_isAt_41 rfl (by decide) ?_
        refine g_zret C dX11_isAt_42 (by decide) (by decide) (by rfl) ?_
        first | exact k0 (fun zq => Int32.not_le.mpr zc21 zq.2.1) | exact k0 (fun zq => Int32.not_le.mpr zc34 zq.2.2) | exact k0 (fun zq => by have := i_eq (x := F 17) he zc8 hqe (by omega); have := zq.1; omega)
      · --f34
        refine g_iconst (n := 38) (v := 1) C dX11_isAt_37 rfl (by decide) ?_
        refine g_goto (t := 42) C dX11_isAt_38 (by decide) ?_
        refine g_zret C dX11_isAt_42 (by decide) (by decide) (by rfl) ?_
        exact k1 ⟨(i_lt (x := F 17) he zc8 hqe (by omega)), Int32.not_lt.mp zc21, Int32.not_lt.mp zc34⟩
theorem dX11_blanks_0 : decode cX11_blanks 0 = .ok (.aload_n 0, 1) := by decide +kernel
theorem dX11_blanks_1 : decode cX11_blanks 1 = .ok (.bipush 32, 2) := by decide +kernel
theorem dX11_blanks_3 : decode cX11_blanks 3 = .ok (.bipush 32, 2) := by decide +kernel
theorem dX11_blanks_5 : decode cX11_blanks 5 = .ok (.invokevirtual 98, 3) := by decide +kernel
theorem dX11_blanks_8 : decode cX11_blanks 8 = .ok (.ifCond .eq 16, 3) := by decide +kernel
theorem dX11_blanks_11 : decode cX11_blanks 11 = .ok (.aload_n 0, 1) := by decide +kernel
theorem dX11_blanks_12 : decode cX11_blanks 12 = .ok (.dup, 1) := by decide +kernel
theorem dX11_blanks_13 : decode cX11_blanks 13 = .ok (.getfield 92, 3) := by decide +kernel
theorem dX11_blanks_16 : decode cX11_blanks 16 = .ok (.iconst 1, 1) := by decide +kernel
theorem dX11_blanks_17 : decode cX11_blanks 17 = .ok (.iadd, 1) := by decide +kernel
theorem dX11_blanks_18 : decode cX11_blanks 18 = .ok (.putfield 92, 3) := by decide +kernel
theorem dX11_blanks_21 : decode cX11_blanks 21 = .ok (.goto (-21), 3) := by decide +kernel
theorem dX11_blanks_24 : decode cX11_blanks 24 = .ok (.aload_n 0, 1) := by decide +kernel
theorem dX11_blanks_25 : decode cX11_blanks 25 = .ok (.aload_n 0, 1) := by decide +kernel
theorem dX11_blanks_26 : decode cX11_blanks 26 = .ok (.getfield 92, 3) := by decide +kernel
theorem dX11_blanks_29 : decode cX11_blanks 29 = .ok (.putfield 102, 3) := by decide +kernel
theorem dX11_blanks_32 : decode cX11_blanks 32 = .ok (.return_, 1) := by decide +kernel
set_option maxHeartbeats 400000 in
set_option maxRecDepth 20000 in
theorem ct_blanks {l : Launch} {E : Ev} {P : Value → AH → Prop} {o : Nat} {ad : Nat → Nat} {F : Nat → Int32} {A : Nat → Nat → Int32} {h : AH} (I : mI o ad) {q b e : Nat} (he : F 17 = nI e) (hqe : q ≤ e) (he4 : e ≤ 400) (hp : P .null (mh E o ad (pF F (rbl A e q) (rbl A e q)) A h)) : Mt l E yX11_blanks cX11_blanks 1 none 1 22 0 0 [.ref o] (mh E o ad (pF F (q) (b)) A h) P := by
  refine Mt.of (by decide) (Nat.le_of_ble_eq_true rfl) ?_
  intro K hK hR C
  have lp : ∀ p : Nat, p ≤ e → ∀ (_ : True), rsc (A 14) 32 32 e p = rsc (A 14) 32 32 e (q) → G K E 1 (QM K E none 0 0 P) 0 0 0 [(0, .ref o)] [] (mh E o ad (pF F (p) (b)) A h) := by
    refine loopN (fun p => ∀ (_ : True), rsc (A 14) 32 32 e p = rsc (A 14) 32 32 e (q) → G K E 1 (QM K E none 0 0 P) 0 0 0 [(0, .ref o)] [] (mh E o ad (pF F (p) (b)) A h)) (e) ?_
    intro p hlep ihp _ er
    refine g_aload_n (n := 1) C dX11_blanks_0 rfl rfl ?_
    refine g_bipush (n := 3) (v := 32) C dX11_blanks_1 rfl (by decide) ?_
    refine g_bipush (n := 5) (v := 32) C dX11_blanks_3 rfl (by decide) ?_
    refine g_callV (n := 8) (As := [.int _, .int _]) C dX11_blanks_5 rfl mw_X11_isAt w_1226 (g_recv C mh_o rfl) rfl rfl (room hR rfl) (ct_isAt I (q := p) he hlep he4 (fun za5 => ?_) (fun zb5 => ?_))
    · --k5.0
      refine g_if_eq (n := 11) (t := 24) C dX11_blanks_8 rfl (by decide) (fun zc8 => ?_) (fun zc8 => ?_)
      · exact absurd zc8 (by decide)
      refine g_aload_n (n := 12) C dX11_blanks_11 rfl rfl ?_
      refine g_dup (n := 13) C dX11_blanks_12 rfl rfl ?_
      refine m_get (n := 16) 16 C dX11_blanks_13 rfl (by decide) rfl w_1116 rfl ?_
      refine g_iconst (n := 17) (v := 1) C dX11_blanks_16 rfl (by decide) ?_
      refine g_iadd (n := 18) C dX11_blanks_17 rfl ?_
      refine m_put (n := 21) 16 C dX11_blanks_18 rfl (by decide) w_1116 rfl rfl rfl mfs_16 ?_
      rw [pF_inc]
      refine g_goto (t := 0) C dX11_blanks_21 (by decide) ?_
      exact g_lv [0] rfl (ihp za5.1 .intro ((rsc_s za5).symm.trans er))
    · --k5.1
      refine g_if_eq (n := 11) (t := 24) C dX11_blanks_8 rfl (by decide) (fun zc8 => ?_) (fun zc8 => ?_)
      rotate_left
      · exact absurd zc8 (by decide)
      refine g_aload_n (n := 25) C dX11_blanks_24 rfl rfl ?_
      refine g_aload_n (n := 26) C dX11_blanks_25 rfl rfl ?_
      refine m_get (n := 29) 16 C dX11_blanks_26 rfl (by decide) rfl w_1116 rfl ?_
      refine m_put (n := 32) 18 C dX11_blanks_29 rfl (by decide) w_1118 rfl rfl rfl mfs_18 ?_
      rw [pF_bg]
      refine g_vret C dX11_blanks_32 (by decide) (by decide) ?_
      have ep : p = rbl A e q := (rsc_0 zb5).symm.trans er
      rw [← ep] at hp
      exact hp
  exact g_lv [0] rfl (lp _ (hqe) .intro rfl)
theorem dX11_word_0 : decode cX11_word 0 = .ok (.aload_n 0, 1) := by decide +kernel
theorem dX11_word_1 : decode cX11_word 1 = .ok (.invokevirtual 105, 3) := by decide +kernel
theorem dX11_word_4 : decode cX11_word 4 = .ok (.aload_n 0, 1) := by decide +kernel
theorem dX11_word_5 : decode cX11_word 5 = .ok (.bipush 97, 2) := by decide +kernel
theorem dX11_word_7 : decode cX11_word 7 = .ok (.bipush 122, 2) := by decide +kernel
theorem dX11_word_9 : decode cX11_word 9 = .ok (.invokevirtual 98, 3) := by decide +kernel
theorem dX11_word_12 : decode cX11_word 12 = .ok (.ifCond .eq 16, 3) := by decide +kernel
theorem dX11_word_15 : decode cX11_word 15 = .ok (.aload_n 0, 1) := by decide +kernel
theorem dX11_word_16 : decode cX11_word 16 = .ok (.dup, 1) := by decide +kernel
theorem dX11_word_17 : decode cX11_word 17 = .ok (.getfield 92, 3) := by decide +kernel
theorem dX11_word_20 : decode cX11_word 20 = .ok (.iconst 1, 1) := by decide +kernel
theorem dX11_word_21 : decode cX11_word 21 = .ok (.iadd, 1) := by decide +kernel
theorem dX11_word_22 : decode cX11_word 22 = .ok (.putfield 92, 3) := by decide +kernel
theorem dX11_word_25 : decode cX11_word 25 = .ok (.goto (-21), 3) := by decide +kernel
theorem dX11_word_28 : decode cX11_word 28 = .ok (.return_, 1) := by decide +kernel
set_option maxHeartbeats 400000 in
set_option maxRecDepth 20000 in
theorem ct_word {l : Launch} {E : Ev} {P : Value → AH → Prop} {o : Nat} {ad : Nat → Nat} {F : Nat → Int32} {A : Nat → Nat → Int32} {h : AH} (I : mI o ad) {q b e : Nat} (he : F 17 = nI e) (hqe : q ≤ e) (he4 : e ≤ 400) (hp : P .null (mh E o ad (pF F (rlt A e (rbl A e q)) (rbl A e q)) A h)) : Mt l E yX11_word cX11_word 1 none 2 42 0 0 [.ref o] (mh E o ad (pF F (q) (b)) A h) P := by
  refine Mt.of (by decide) (Nat.le_of_ble_eq_true rfl) ?_
  intro K hK hR C
  refine g_aload_n (n := 1) C dX11_word_0 rfl rfl ?_
  refine g_callV (n := 4) (As := []) C dX11_word_1 rfl mw_X11_blanks w_1222 (g_recv C mh_o rfl) rfl rfl (room hR rfl) (ct_blanks I he hqe he4 ?_)
  have lp : ∀ p : Nat, p ≤ e → ∀ (_ : True), rsc (A 14) 97 122 e p = rsc (A 14) 97 122 e (rbl A e q) → G K E 1 (QM K E none 0 0 P) 0 0 4 [(0, .ref o)] [] (mh E o ad (pF F (p) (rbl A e q)) A h) := by
    refine loopN (fun p => ∀ (_ : True), rsc (A 14) 97 122 e p = rsc (A 14) 97 122 e (rbl A e q) → G K E 1 (QM K E none 0 0 P) 0 0 4 [(0, .ref o)] [] (mh E o ad (pF F (p) (rbl A e q)) A h)) (e) ?_
    intro p hlep ihp _ er
    refine g_aload_n (n := 5) C dX11_word_4 rfl rfl ?_
    refine g_bipush (n := 7) (v := 97) C dX11_word_5 rfl (by decide) ?_
    refine g_bipush (n := 9) (v := 122) C dX11_word_7 rfl (by decide) ?_
    refine g_callV (n := 12) (As := [.int _, .int _]) C dX11_word_9 rfl mw_X11_isAt w_1226 (g_recv C mh_o rfl) rfl rfl (room hR rfl) (ct_isAt I (q := p) he hlep he4 (fun za9 => ?_) (fun zb9 => ?_))
    · --k9.0
      refine g_if_eq (n := 15) (t := 28) C dX11_word_12 rfl (by decide) (fun zc12 => ?_) (fun zc12 => ?_)
      · exact absurd zc12 (by decide)
      refine g_aload_n (n := 16) C dX11_word_15 rfl rfl ?_
      refine g_dup (n := 17) C dX11_word_16 rfl rfl ?_
      refine m_get (n := 20) 16 C dX11_word_17 rfl (by decide) rfl w_1116 rfl ?_
      refine g_iconst (n := 21) (v := 1) C dX11_word_20 rfl (by decide) ?_
      refine g_iadd (n := 22) C dX11_word_21 rfl ?_
      refine m_put (n := 25) 16 C dX11_word_22 rfl (by decide) w_1116 rfl rfl rfl mfs_16 ?_
      rw [pF_inc]
      refine g_goto (t := 4) C dX11_word_25 (by decide) ?_
      exact g_lv [0] rfl (ihp za9.1 .intro ((rsc_s za9).symm.trans er))
    · --k9.1
      refine g_if_eq (n := 15) (t := 28) C dX11_word_12 rfl (by decide) (fun zc12 => ?_) (fun zc12 => ?_)
      rotate_left
      · exact absurd zc12 (by decide)
      refine g_vret C dX11_word_28 (by decide) (by decide) ?_
      have ep : p = rlt A e (rbl A e q) := (rsc_0 zb9).symm.trans er
      rw [← ep] at hp
      exact hp
  exact g_lv [0] rfl (lp _ ((rsc_le hqe)) .intro rfl)
theorem dX11_number_0 : decode cX11_number 0 = .ok (.aload_n 0, 1) := by decide +kernel
theorem dX11_number_1 : decode cX11_number 1 = .ok (.invokevirtual 105, 3) := by decide +kernel
theorem dX11_number_4 : decode cX11_number 4 = .ok (.iconst 0, 1) := by decide +kernel
theorem dX11_number_5 : decode cX11_number 5 = .ok (.istore 4, 2) := by decide +kernel
theorem dX11_number_7 : decode cX11_number 7 = .ok (.aload_n 0, 1) := by decide +kernel
theorem dX11_number_8 : decode cX11_number 8 = .ok (.bipush 48, 2) := by decide +kernel
theorem dX11_number_10 : decode cX11_number 10 = .ok (.bipush 57, 2) := by decide +kernel
theorem dX11_number_12 : decode cX11_number 12 = .ok (.invokevirtual 98, 3) := by decide +kernel
theorem dX11_number_15 : decode cX11_number 15 = .ok (.ifCond .eq 55, 3) := by decide +kernel
theorem dX11_number_18 : decode cX11_number 18 = .ok (.aload_n 0, 1) := by decide +kernel
theorem dX11_number_19 : decode cX11_number 19 = .ok (.getfield 92, 3) := by decide +kernel
theorem dX11_number_22 : decode cX11_number 22 = .ok (.aload_n 0, 1) := by decide +kernel
theorem dX11_number_23 : decode cX11_number 23 = .ok (.getfield 102, 3) := by decide +kernel
theorem dX11_number_26 : decode cX11_number 26 = .ok (.isub, 1) := by decide +kernel
theorem dX11_number_27 : decode cX11_number 27 = .ok (.bipush 6, 2) := by decide +kernel
theorem dX11_number_29 : decode cX11_number 29 = .ok (.if_icmp .ge 24, 3) := by decide +kernel
theorem dX11_number_32 : decode cX11_number 32 = .ok (.bipush 10, 2) := by decide +kernel
theorem dX11_number_34 : decode cX11_number 34 = .ok (.iload 4, 2) := by decide +kernel
theorem dX11_number_36 : decode cX11_number 36 = .ok (.imul, 1) := by decide +kernel
theorem dX11_number_37 : decode cX11_number 37 = .ok (.aload_n 0, 1) := by decide +kernel
theorem dX11_number_38 : decode cX11_number 38 = .ok (.getfield 41, 3) := by decide +kernel
theorem dX11_number_41 : decode cX11_number 41 = .ok (.aload_n 0, 1) := by decide +kernel
theorem dX11_number_42 : decode cX11_number 42 = .ok (.getfield 92, 3) := by decide +kernel
theorem dX11_number_45 : decode cX11_number 45 = .ok (.baload, 1) := by decide +kernel
theorem dX11_number_46 : decode cX11_number 46 = .ok (.iadd, 1) := by decide +kernel
theorem dX11_number_47 : decode cX11_number 47 = .ok (.bipush 48, 2) := by decide +kernel
theorem dX11_number_49 : decode cX11_number 49 = .ok (.isub, 1) := by decide +kernel
theorem dX11_number_50 : decode cX11_number 50 = .ok (.goto 5, 3) := by decide +kernel
theorem dX11_number_53 : decode cX11_number 53 = .ok (.iload 4, 2) := by decide +kernel
theorem dX11_number_55 : decode cX11_number 55 = .ok (.istore 4, 2) := by decide +kernel
theorem dX11_number_57 : decode cX11_number 57 = .ok (.aload_n 0, 1) := by decide +kernel
theorem dX11_number_58 : decode cX11_number 58 = .ok (.dup, 1) := by decide +kernel
theorem dX11_number_59 : decode cX11_number 59 = .ok (.getfield 92, 3) := by decide +kernel
theorem dX11_number_62 : decode cX11_number 62 = .ok (.iconst 1, 1) := by decide +kernel
theorem dX11_number_63 : decode cX11_number 63 = .ok (.iadd, 1) := by decide +kernel
theorem dX11_number_64 : decode cX11_number 64 = .ok (.putfield 92, 3) := by decide +kernel
theorem dX11_number_67 : decode cX11_number 67 = .ok (.goto (-60), 3) := by decide +kernel
theorem dX11_number_70 : decode cX11_number 70 = .ok (.aload_n 0, 1) := by decide +kernel
theorem dX11_number_71 : decode cX11_number 71 = .ok (.getfield 38, 3) := by decide +kernel
theorem dX11_number_74 : decode cX11_number 74 = .ok (.iload_n 1, 1) := by decide +kernel
theorem dX11_number_75 : decode cX11_number 75 = .ok (.iload 4, 2) := by decide +kernel
theorem dX11_number_77 : decode cX11_number 77 = .ok (.iastore, 1) := by decide +kernel
theorem dX11_number_78 : decode cX11_number 78 = .ok (.aload_n 0, 1) := by decide +kernel
theorem dX11_number_79 : decode cX11_number 79 = .ok (.getfield 92, 3) := by decide +kernel
theorem dX11_number_82 : decode cX11_number 82 = .ok (.aload_n 0, 1) := by decide +kernel
theorem dX11_number_83 : decode cX11_number 83 = .ok (.getfield 102, 3) := by decide +kernel
theorem dX11_number_86 : decode cX11_number 86 = .ok (.if_icmp .le 33, 3) := by decide +kernel
theorem dX11_number_89 : decode cX11_number 89 = .ok (.aload_n 0, 1) := by decide +kernel
theorem dX11_number_90 : decode cX11_number 90 = .ok (.getfield 92, 3) := by decide +kernel
theorem dX11_number_93 : decode cX11_number 93 = .ok (.aload_n 0, 1) := by decide +kernel
theorem dX11_number_94 : decode cX11_number 94 = .ok (.getfield 102, 3) := by decide +kernel
theorem dX11_number_97 : decode cX11_number 97 = .ok (.isub, 1) := by decide +kernel
theorem dX11_number_98 : decode cX11_number 98 = .ok (.bipush 7, 2) := by decide +kernel
theorem dX11_number_100 : decode cX11_number 100 = .ok (.if_icmp .ge 19, 3) := by decide +kernel
theorem dX11_number_103 : decode cX11_number 103 = .ok (.iload 4, 2) := by decide +kernel
theorem dX11_number_105 : decode cX11_number 105 = .ok (.iload_n 2, 1) := by decide +kernel
theorem dX11_number_106 : decode cX11_number 106 = .ok (.if_icmp .lt 13, 3) := by decide +kernel
theorem dX11_number_109 : decode cX11_number 109 = .ok (.iload 4, 2) := by decide +kernel
theorem dX11_number_111 : decode cX11_number 111 = .ok (.iload_n 3, 1) := by decide +kernel
theorem dX11_number_112 : decode cX11_number 112 = .ok (.if_icmp .gt 7, 3) := by decide +kernel
theorem dX11_number_115 : decode cX11_number 115 = .ok (.iconst 1, 1) := by decide +kernel
theorem dX11_number_116 : decode cX11_number 116 = .ok (.goto 4, 3) := by decide +kernel
theorem dX11_number_119 : decode cX11_number 119 = .ok (.iconst 0, 1) := by decide +kernel
theorem dX11_number_120 : decode cX11_number 120 = .ok (.ireturn, 1) := by decide +kernel
set_option maxHeartbeats 1000000 in
set_option maxRecDepth 20000 in
theorem ct_number {l : Launch} {E : Ev} {P : Value → AH → Prop} {o : Nat} {ad : Nat → Nat} {F : Nat → Int32} {A : Nat → Nat → Int32} {h : AH} (I : mI o ad) {q b e : Nat} (he : F 17 = nI e) (hqe : q ≤ e) (he4 : e ≤ 400) {to lo hi : Int32} {j : Nat} (hj : j < 7) (hto : to = nI j) (k1 : rnok (A 14) (rbl A e q) (rdg A e (rbl A e q)) lo hi → P (.int 1) (mh E o ad (pF F ((rdg A e (rbl A e q))) ((rbl A e q))) (aset A 12 j (rnv (A 14) (rbl A e q) ((rdg A e (rbl A e q)) - (rbl A e q)))) h)) (k0 : ¬ rnok (A 14) (rbl A e q) (rdg A e (rbl A e q)) lo hi → P (.int 0) (mh E o ad (pF F ((rdg A e (rbl A e q))) ((rbl A e q))) (aset A 12 j (rnv (A 14) (rbl A e q) ((rdg A e (rbl A e q)) - (rbl A e q)))) h)) : Mt l E yX11_number cX11_number 5 (some .boolean) 2 42 0 0 [.ref o, .int to, .int lo, .int hi] (mh E o ad (pF F (q) (b)) A h) P := by
  refine Mt.of (by decide) (Nat.le_of_ble_eq_true rfl) ?_
  intro K hK hR C
  refine g_aload_n (n := 1) C dX11_number_0 rfl rfl ?_
  refine g_callV (n := 4) (As := []) C dX11_number_1 rfl mw_X11_blanks w_1222 (g_recv C mh_o rfl) rfl rfl (room hR rfl) (ct_blanks I he hqe he4 ?_)
  refine g_iconst (n := 5) (v := 0) C dX11_number_4 rfl (by decide) ?_
  refine g_istore (n := 7) C dX11_number_5 rfl (by decide) ?_
  have lp : ∀ p : Nat, p ≤ e → ∀ (v : Int32), rbl A e q ≤ p → v = rnv (A 14) (rbl A e q) (p - (rbl A e q)) → rdg A e p = (rdg A e (rbl A e q)) → G K E 5 (QM K E (some .boolean) 0 0 P) 0 0 7 [(0, .ref o), (1, .int to), (2, .int lo), (3, .int hi), (4, .int v)] [] (mh E o ad (pF F (p) ((rbl A e q))) A h) := by
    refine loopN (fun p => ∀ (v : Int32), rbl A e q ≤ p → v = rnv (A 14) (rbl A e q) (p - (rbl A e q)) → rdg A e p = (rdg A e (rbl A e q)) → G K E 5 (QM K E (some .boolean) 0 0 P) 0 0 7 [(0, .ref o), (1, .int to), (2, .int lo), (3, .int hi), (4, .int v)] [] (mh E o ad (pF F (p) ((rbl A e q))) A h)) (e) ?_
    intro p hlep ihp v hbp ev er
    refine g_aload_n (n := 8) C dX11_number_7 rfl rfl ?_
    refine g_bipush (n := 10) (v := 48) C dX11_number_8 rfl (by decide) ?_
    refine g_bipush (n := 12) (v := 57) C dX11_number_10 rfl (by decide) ?_
    refine g_callV (n := 15) (As := [.int _, .int _]) C dX11_number_12 rfl mw_X11_isAt w_1226 (g_recv C mh_o rfl) rfl rfl (room hR rfl) (ct_isAt I (q := p) he hlep he4 (fun za12 => ?_) (fun zb12 => ?_))
    · --k12.0
      refine g_if_eq (n := 18) (t := 70) C dX11_number_15 rfl (by decide) (fun zc15 => ?_) (fun zc15 => ?_)
      · exact absurd zc15 (by decide)
      refine g_aload_n (n := 19) C dX11_number_18 rfl rfl ?_
      refine m_get (n := 22) 16 C dX11_number_19 rfl (by decide) rfl w_1116 rfl ?_
      refine g_aload_n (n := 23) C dX11_number_22 rfl rfl ?_
      refine m_get (n := 26) 18 C dX11_number_23 rfl (by decide) rfl w_1118 rfl ?_
      refine g_isub (n := 27) C dX11_number_26 rfl ?_
      refine g_bipush (n := 29) (v := 6) C dX11_number_27 rfl (by decide) ?_
      refine g_icmp_ge (n := 32) (t := 53) C dX11_number_29 rfl (by decide) (fun zc29 => ?_) (fun zc29 => ?_)
      · --t29
        refine g_iload (n := 55) C dX11_number_53 rfl rfl ?_
        refine g_istore (n := 57) C dX11_number_55 rfl (by decide) ?_
        refine g_aload_n (n := 58) C dX11_number_57 rfl rfl ?_
        refine g_dup (n := 59) C dX11_number_58 rfl rfl ?_
        refine m_get (n := 62) 16 C dX11_number_59 rfl (by decide) rfl w_1116 rfl ?_
        refine g_iconst (n := 63) (v := 1) C dX11_number_62 rfl (by decide) ?_
        refine g_iadd (n := 64) C dX11_number_63 rfl ?_
        refine m_put (n := 67) 16 C dX11_number_64 rfl (by decide) w_1116 rfl rfl rfl mfs_16 ?_
        rw [pF_inc]
        refine g_goto (t := 7) C dX11_number_67 (by decide) ?_
        exact g_lv [0, 1, 2, 3, 4] rfl (ihp za12.1 _ (by omega) (by rw [Nat.succ_sub hbp, ev]; first | (rw [← rnv_s (nI_sml (k := 6) zc29 hbp (by omega) (by decide)), Nat.add_sub_cancel' hbp]) | exact rnv_0 (Nat.not_lt.mpr (nI_big (k := 6) zc29 hbp (by omega) (by decide)))) ((rsc_s za12).symm.trans er))
      · --f29
        refine g_bipush (n := 34) (v := 10) C dX11_number_32 rfl (by decide) ?_
        refine g_iload (n := 36) C dX11_number_34 rfl rfl ?_
        refine g_imul (n := 37) C dX11_number_36 rfl ?_
        refine g_aload_n (n := 38) C dX11_number_37 rfl rfl ?_
        refine m_get (n := 41) 14 C dX11_number_38 rfl (by decide) rfl w_1114 rfl ?_
        refine g_aload_n (n := 42) C dX11_number_41 rfl rfl ?_
        refine m_get (n := 45) 16 C dX11_number_42 rfl (by decide) rfl w_1116 rfl ?_
        refine m_bald (n := 46) 14 (p) C dX11_number_45 rfl I (by decide) rfl rfl (by have := za12.1; omega) (by decide) rfl ?_
        refine g_iadd (n := 47) C dX11_number_46 rfl ?_
        refine g_bipush (n := 49) (v := 48) C dX11_number_47 rfl (by decide) ?_
        refine g_isub (n := 50) C dX11_number_49 rfl ?_
        refine g_goto (t := 55) C dX11_number_50 (by decide) ?_
        refine g_istore (n := 57) C dX11_number_55 rfl (by decide) ?_
        refine g_aload_n (n := 58) C dX11_number_57 rfl rfl ?_
        refine g_dup (n := 59) C dX11_number_58 rfl rfl ?_
        refine m_get (n := 62) 16 C dX11_number_59 rfl (by decide) rfl w_1116 rfl ?_
        refine g_iconst (n := 63) (v := 1) C dX11_number_62 rfl (by decide) ?_
        refine g_iadd (n := 64) C dX11_number_63 rfl ?_
        refine m_put (n := 67) 16 C dX11_number_64 rfl (by decide) w_1116 rfl rfl rfl mfs_16 ?_
        rw [pF_inc]
        refine g_goto (t := 7) C dX11_number_67 (by decide) ?_
        exact g_lv [0, 1, 2, 3, 4] rfl (ihp za12.1 _ (by omega) (by rw [Nat.succ_sub hbp, ev]; first | (rw [← rnv_s (nI_sml (k := 6) zc29 hbp (by omega) (by decide)), Nat.add_sub_cancel' hbp]) | exact rnv_0 (Nat.not_lt.mpr (nI_big (k := 6) zc29 hbp (by omega) (by decide)))) ((rsc_s za12).symm.trans er))
    · --k12.1
      refine g_if_eq (n := 18) (t := 70) C dX11_number_15 rfl (by decide) (fun zc15 => ?_) (fun zc15 => ?_)
      rotate_left
      · exact absurd zc15 (by decide)
      have ep : p = (rdg A e (rbl A e q)) := (rsc_0 zb12).symm.trans er
      rw [← ep] at k1 k0
      rw [ev]
      refine g_aload_n (n := 71) C dX11_number_70 rfl rfl ?_
      refine m_get (n := 74) 12 C dX11_number_71 rfl (by decide) rfl w_1112 rfl ?_
      refine g_iload_n (n := 75) C dX11_number_74 rfl rfl ?_
      refine g_iload (n := 77) C dX11_number_75 rfl rfl ?_
      refine m_iast (n := 78) 12 (j) C dX11_number_77 rfl I (by decide) (fun _ => rfl) hto hj (by decide) ?_
      refine g_aload_n (n := 79) C dX11_number_78 rfl rfl ?_
      refine m_get (n := 82) 16 C dX11_number_79 rfl (by decide) rfl w_1116 rfl ?_
      refine g_aload_n (n := 83) C dX11_number_82 rfl rfl ?_
      refine m_get (n := 86) 18 C dX11_number_83 rfl (by decide) rfl w_1118 rfl ?_
      refine g_icmp_le (n := 89) (t := 119) C dX11_number_86 rfl (by decide) (fun zc86 => ?_) (fun zc86 => ?_)
      · --t86
        refine g_iconst (n := 120) (v := 0) C dX11_number_119 rfl (by decide) ?_
        refine g_zret C dX11_number_120 (by decide) (by decide) (by rfl) ?_
        first | exact k0 (fun zq => Int32.not_le.mpr zc106 zq.2.2.1) | exact k0 (fun zq => Int32.not_le.mpr zc112 zq.2.2.2) | exact k0 (fun zq => by have := nI_big (k := 7) zc100 hbp (by omega) (by decide); have := zq.2.1; omega) | exact k0 (fun zq => by have := i_eq (x := nI p) rfl zc86 hbp (by omega); have := zq.1; omega)
      · --f86
        refine g_aload_n (n := 90) C dX11_number_89 rfl rfl ?_
        refine m_get (n := 93) 16 C dX11_number_90 rfl (by decide) rfl w_1116 rfl ?_
        refine g_aload_n (n := 94) C dX11_number_93 rfl rfl ?_
        refine m_get (n := 97) 18 C dX11_number_94 rfl (by decide) rfl w_1118 rfl ?_
        refine g_isub (n := 98) C dX11_number_97 rfl ?_
        refine g_bipush (n := 100) (v := 7) C dX11_number_98 rfl (by decide) ?_
        refine g_icmp_ge (n := 103) (t := 119) C dX11_number_100 rfl (by decide) (fun zc100 => ?_) (fun zc100 => ?_)
        · --t100
          refine g_iconst (n := 120) (v := 0) C dX11_number_119 rfl (by decide) ?_
          refine g_zret C dX11_number_120 (by decide) (by decide) (by rfl) ?_
          first | exact k0 (fun zq => Int32.not_le.mpr zc106 zq.2.2.1) | exact k0 (fun zq => Int32.not_le.mpr zc112 zq.2.2.2) | exact k0 (fun zq => by have := nI_big (k := 7) zc100 hbp (by omega) (by decide); have := zq.2.1; omega) | exact k0 (fun zq => by have := i_eq (x := nI p) rfl zc86 hbp (by omega); have := zq.1; omega)
        · --f100
          refine g_iload (n := 105) C dX11_number_103 rfl rfl ?_
          refine g_iload_n (n := 106) C dX11_number_105 rfl rfl ?_
          refine g_icmp_lt (n := 109) (t := 119) C dX11_number_106 rfl (by decide) (fun zc106 => ?_) (fun zc106 => ?_)
          · --t106
            refine g_iconst (n := 120) (v := 0) C dX11_number_119 rfl (by decide) ?_
            refine g_zret C dX11_number_120 (by decide) (by decide) (by rfl) ?_
            first | exact k0 (fun zq => Int32.not_le.mpr zc106 zq.2.2.1) | exact k0 (fun zq => Int32.not_le.mpr zc112 zq.2.2.2) | exact k0 (fun zq => by have := nI_big (k := 7) zc100 hbp (by omega) (by decide); have := zq.2.1; omega) | exact k0 (fun zq => by have := i_eq (x := nI p) rfl zc86 hbp (by omega); have := zq.1; omega)
          · --f106
            refine g_iload (n := 111) C dX11_number_109 rfl rfl ?_
            refine g_iload_n (n := 112) C dX11_number_111 rfl rfl ?_
            refine g_icmp_gt (n := 115) (t := 119) C dX11_number_112 rfl (by decide) (fun zc112 => ?_) (fun zc112 => ?_)
            · --t112
              refine g_iconst (n := 120) (v := 0) C dX11_number_119 rfl (by decide) ?_
              refine g_zret C dX11_number_120 (by decide) (by decide) (by rfl) ?_
              first | exact k0 (fun zq => Int32.not_le.mpr zc106 zq.2.2.1) | exact k0 (fun zq => Int32.not_le.mpr zc112 zq.2.2.2) | exact k0 (fun zq => by have := nI_big (k := 7) zc100 hbp (by omega) (by decide); have := zq.2.1; omega) | exact k0 (fun zq => by have := i_eq (x := nI p) rfl zc86 hbp (by omega); have := zq.1; omega)
            · --f112
              refine g_iconst (n := 116) (v := 1) C dX11_number_115 rfl (by decide) ?_
              refine g_goto (t := 120) C dX11_number_116 (by decide) ?_
              refine g_zret C dX11_number_120 (by decide) (by decide) (by rfl) ?_
              exact k1 ⟨i_lt (x := nI p) rfl zc86 hbp (by omega), nI_sml (k := 7) zc100 hbp (by omega) (by decide), Int32.not_lt.mp zc106, Int32.not_lt.mp zc112⟩
  exact g_lv [0, 1, 2, 3, 4] rfl (lp _ ((rsc_le hqe)) _ (Nat.le_refl _) (by rw [Nat.sub_self]; rfl) rfl)
