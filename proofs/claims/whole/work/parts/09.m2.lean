theorem loopN (W : Nat → Prop) (N : Nat) (hs : ∀ p, p ≤ N → (p < N → W (p + 1)) → W p) : ∀ p, p ≤ N → W p := by
  have key : ∀ k p, p + k = N → W p := by
    intro k
    induction k with
    | zero => intro p hp; exact hs p (by omega) (fun q => absurd q (by omega))
    | succ k ih => intro p hp; exact hs p (by omega) (fun _ => ih (p + 1) (by omega))
  exact fun p hp => key (N - p) p (by omega)
theorem i_lt {x : Int32} {n p : Nat} (hx : x = nI n) (c : ¬ x ≤ nI p) (hp : p ≤ n) (hn : n < 2147483648) : p < n := by
  rcases Nat.lt_or_ge p n with q | q
  · exact q
  · exact absurd (by rw [hx]; exact nI_le q (by omega)) c
theorem i_eq {x : Int32} {n p : Nat} (hx : x = nI n) (c : x ≤ nI p) (hp : p ≤ n) (hn : n < 2147483648) : p = n := by
  rw [hx] at c
  have := (nI_leI (a := n) (b := p) (by omega) (by omega)).mp c
  omega
def rapart (a b : Int32) : Int32 := imax (iabs ((a - a / 12 * 12) - (b - b / 12 * 12))) (iabs (a / 12 - b / 12))
def rlow (F : Nat → Int32) (A : Nat → Nat → Int32) (s : Int32) : Nat → Int32
  | 0 => 0
  | p + 1 => if A 5 p < 0 then rlow F A s p else imax (rlow F A s p) (A 5 p - F 2 * rapart (A 3 p) s)
def rhigh (F : Nat → Int32) (A : Nat → Nat → Int32) (s : Int32) : Nat → Int32
  | 0 => 100
  | p + 1 => if A 5 p < 0 then rhigh F A s p else imin (rhigh F A s p) (A 5 p + F 2 * rapart (A 3 p) s)
/-- a pit p lets another be sunk at s -/
def rok (A : Nat → Nat → Int32) (s : Int32) (p : Nat) : Prop := A 3 p ≠ s ∧ (¬ A 6 p < 0 ∨ ¬ rapart (A 3 p) s < A 10 0)
def rmay (A : Nat → Nat → Int32) (s : Int32) (n : Nat) : Prop := ∀ p, p < n → rok A s p
theorem dX11_apart_0 : decode cX11_apart 0 = .ok (.iload_n 0, 1) := by decide +kernel
theorem dX11_apart_1 : decode cX11_apart 1 = .ok (.bipush 12, 2) := by decide +kernel
theorem dX11_apart_3 : decode cX11_apart 3 = .ok (.irem, 1) := by decide +kernel
theorem dX11_apart_4 : decode cX11_apart 4 = .ok (.iload_n 1, 1) := by decide +kernel
theorem dX11_apart_5 : decode cX11_apart 5 = .ok (.bipush 12, 2) := by decide +kernel
theorem dX11_apart_7 : decode cX11_apart 7 = .ok (.irem, 1) := by decide +kernel
theorem dX11_apart_8 : decode cX11_apart 8 = .ok (.isub, 1) := by decide +kernel
theorem dX11_apart_9 : decode cX11_apart 9 = .ok (.invokestatic 170, 3) := by decide +kernel
theorem dX11_apart_12 : decode cX11_apart 12 = .ok (.iload_n 0, 1) := by decide +kernel
theorem dX11_apart_13 : decode cX11_apart 13 = .ok (.bipush 12, 2) := by decide +kernel
theorem dX11_apart_15 : decode cX11_apart 15 = .ok (.idiv, 1) := by decide +kernel
theorem dX11_apart_16 : decode cX11_apart 16 = .ok (.iload_n 1, 1) := by decide +kernel
theorem dX11_apart_17 : decode cX11_apart 17 = .ok (.bipush 12, 2) := by decide +kernel
theorem dX11_apart_19 : decode cX11_apart 19 = .ok (.idiv, 1) := by decide +kernel
theorem dX11_apart_20 : decode cX11_apart 20 = .ok (.isub, 1) := by decide +kernel
theorem dX11_apart_21 : decode cX11_apart 21 = .ok (.invokestatic 170, 3) := by decide +kernel
theorem dX11_apart_24 : decode cX11_apart 24 = .ok (.invokestatic 176, 3) := by decide +kernel
theorem dX11_apart_27 : decode cX11_apart 27 = .ok (.ireturn, 1) := by decide +kernel
set_option maxHeartbeats 400000 in
set_option maxRecDepth 20000 in
theorem ct_apart {l : Launch} {E : Ev} {P : Value → AH → Prop}  {h : AH} {a b : Int32} (hp : P (.int (rapart a b)) h) : Mt l E yX11_apart cX11_apart 2 (some .int) 1 40 0 0 [.int a, .int b] (h) P := by
  refine Mt.of (by decide) (Nat.le_of_ble_eq_true rfl) ?_
  intro K hK hR C
  refine g_iload_n (n := 1) C dX11_apart_0 rfl rfl ?_
  refine g_bipush (n := 3) (v := 12) C dX11_apart_1 rfl (by decide) ?_
  refine g_irem (n := 4) C dX11_apart_3 rfl (by decide) ?_
  refine g_iload_n (n := 5) C dX11_apart_4 rfl rfl ?_
  refine g_bipush (n := 7) (v := 12) C dX11_apart_5 rfl (by decide) ?_
  refine g_irem (n := 8) C dX11_apart_7 rfl (by decide) ?_
  refine g_isub (n := 9) C dX11_apart_8 rfl ?_
  refine g_abs (n := 12) C dX11_apart_9 rfl mwM_abs w_1290 (roomM hR rfl) ?_
  refine g_iload_n (n := 13) C dX11_apart_12 rfl rfl ?_
  refine g_bipush (n := 15) (v := 12) C dX11_apart_13 rfl (by decide) ?_
  refine g_idiv (n := 16) C dX11_apart_15 rfl (by decide) ?_
  refine g_iload_n (n := 17) C dX11_apart_16 rfl rfl ?_
  refine g_bipush (n := 19) (v := 12) C dX11_apart_17 rfl (by decide) ?_
  refine g_idiv (n := 20) C dX11_apart_19 rfl (by decide) ?_
  refine g_isub (n := 21) C dX11_apart_20 rfl ?_
  refine g_abs (n := 24) C dX11_apart_21 rfl mwM_abs w_1290 (roomM hR rfl) ?_
  refine g_max (n := 27) C dX11_apart_24 rfl mwM_max w_1291 (roomM hR rfl) ?_
  refine g_iret C dX11_apart_27 (by decide) (by decide) ?_
  exact hp
theorem dX11_low_0 : decode cX11_low 0 = .ok (.iconst 0, 1) := by decide +kernel
theorem dX11_low_1 : decode cX11_low 1 = .ok (.istore_n 2, 1) := by decide +kernel
theorem dX11_low_2 : decode cX11_low 2 = .ok (.iconst 0, 1) := by decide +kernel
theorem dX11_low_3 : decode cX11_low 3 = .ok (.istore_n 3, 1) := by decide +kernel
theorem dX11_low_4 : decode cX11_low 4 = .ok (.iload_n 3, 1) := by decide +kernel
theorem dX11_low_5 : decode cX11_low 5 = .ok (.aload_n 0, 1) := by decide +kernel
theorem dX11_low_6 : decode cX11_low 6 = .ok (.getfield 83, 3) := by decide +kernel
theorem dX11_low_9 : decode cX11_low 9 = .ok (.if_icmp .ge 45, 3) := by decide +kernel
theorem dX11_low_12 : decode cX11_low 12 = .ok (.aload_n 0, 1) := by decide +kernel
theorem dX11_low_13 : decode cX11_low 13 = .ok (.getfield 20, 3) := by decide +kernel
theorem dX11_low_16 : decode cX11_low 16 = .ok (.iload_n 3, 1) := by decide +kernel
theorem dX11_low_17 : decode cX11_low 17 = .ok (.iaload, 1) := by decide +kernel
theorem dX11_low_18 : decode cX11_low 18 = .ok (.ifCond .lt 30, 3) := by decide +kernel
theorem dX11_low_21 : decode cX11_low 21 = .ok (.iload_n 2, 1) := by decide +kernel
theorem dX11_low_22 : decode cX11_low 22 = .ok (.aload_n 0, 1) := by decide +kernel
theorem dX11_low_23 : decode cX11_low 23 = .ok (.getfield 20, 3) := by decide +kernel
theorem dX11_low_26 : decode cX11_low 26 = .ok (.iload_n 3, 1) := by decide +kernel
theorem dX11_low_27 : decode cX11_low 27 = .ok (.iaload, 1) := by decide +kernel
theorem dX11_low_28 : decode cX11_low 28 = .ok (.aload_n 0, 1) := by decide +kernel
theorem dX11_low_29 : decode cX11_low 29 = .ok (.getfield 7, 3) := by decide +kernel
theorem dX11_low_32 : decode cX11_low 32 = .ok (.aload_n 0, 1) := by decide +kernel
theorem dX11_low_33 : decode cX11_low 33 = .ok (.getfield 13, 3) := by decide +kernel
theorem dX11_low_36 : decode cX11_low 36 = .ok (.iload_n 3, 1) := by decide +kernel
theorem dX11_low_37 : decode cX11_low 37 = .ok (.iaload, 1) := by decide +kernel
theorem dX11_low_38 : decode cX11_low 38 = .ok (.iload_n 1, 1) := by decide +kernel
theorem dX11_low_39 : decode cX11_low 39 = .ok (.invokestatic 180, 3) := by decide +kernel
theorem dX11_low_42 : decode cX11_low 42 = .ok (.imul, 1) := by decide +kernel
theorem dX11_low_43 : decode cX11_low 43 = .ok (.isub, 1) := by decide +kernel
theorem dX11_low_44 : decode cX11_low 44 = .ok (.invokestatic 176, 3) := by decide +kernel
theorem dX11_low_47 : decode cX11_low 47 = .ok (.istore_n 2, 1) := by decide +kernel
theorem dX11_low_48 : decode cX11_low 48 = .ok (.iinc 3 1, 3) := by decide +kernel
theorem dX11_low_51 : decode cX11_low 51 = .ok (.goto (-47), 3) := by decide +kernel
theorem dX11_low_54 : decode cX11_low 54 = .ok (.iload_n 2, 1) := by decide +kernel
theorem dX11_low_55 : decode cX11_low 55 = .ok (.ireturn, 1) := by decide +kernel
set_option maxHeartbeats 400000 in
set_option maxRecDepth 20000 in
theorem ct_low {l : Launch} {E : Ev} {P : Value → AH → Prop} {o : Nat} {ad : Nat → Nat} {F : Nat → Int32} {A : Nat → Nat → Int32} {h : AH} (I : mI o ad) {s : Int32} {n : Nat} (hn : F 9 = nI n) (hn3 : n ≤ 30) (hp : P (.int (rlow F A s n)) (mh E o ad F A h)) : Mt l E yX11_low cX11_low 4 (some .int) 2 90 0 0 [.ref o, .int s] (mh E o ad F A h) P := by
  refine Mt.of (by decide) (Nat.le_of_ble_eq_true rfl) ?_
  intro K hK hR C
  refine g_iconst (n := 1) (v := 0) C dX11_low_0 rfl (by decide) ?_
  refine g_istore_n (n := 2) C dX11_low_1 rfl (by decide) ?_
  refine g_iconst (n := 3) (v := 0) C dX11_low_2 rfl (by decide) ?_
  refine g_istore_n (n := 4) C dX11_low_3 rfl (by decide) ?_
  have lp : ∀ p : Nat, p ≤ n → ∀ (v x : Int32), v = rlow F A s p → x = nI p → G K E 4 (QM K E (some .int) 0 0 P) 0 0 4 [(0, .ref o), (1, .int s), (2, .int v), (3, .int x)] [] (mh E o ad F A h) := by
    refine loopN (fun p => ∀ (v x : Int32), v = rlow F A s p → x = nI p → G K E 4 (QM K E (some .int) 0 0 P) 0 0 4 [(0, .ref o), (1, .int s), (2, .int v), (3, .int x)] [] (mh E o ad F A h)) (n) ?_
    intro p hlep ihp v x ev ex
    subst ex
    refine g_iload_n (n := 5) C dX11_low_4 rfl rfl ?_
    refine g_aload_n (n := 6) C dX11_low_5 rfl rfl ?_
    refine m_get (n := 9) 9 C dX11_low_6 rfl (by decide) rfl w_1109 rfl ?_
    refine g_icmp_ge (n := 12) (t := 54) C dX11_low_9 rfl (by decide) (fun c9 => ?_) (fun c9 => ?_)
    · --t9
      refine g_iload_n (n := 55) C dX11_low_54 rfl rfl ?_
      refine g_iret C dX11_low_55 (by decide) (by decide) ?_
      have e : p = n := i_eq hn c9 hlep (by omega)
      subst e
      rw [ev]
      exact hp
    · --f9
      refine g_aload_n (n := 13) C dX11_low_12 rfl rfl ?_
      refine m_get (n := 16) 5 C dX11_low_13 rfl (by decide) rfl w_1105 rfl ?_
      refine g_iload_n (n := 17) C dX11_low_16 rfl rfl ?_
      refine m_iald (n := 18) 5 (p) C dX11_low_17 rfl I (by decide) rfl rfl (by have := (i_lt hn c9 hlep (by omega)); omega) (by decide) ?_
      refine g_if_lt (n := 21) (t := 48) C dX11_low_18 rfl (by decide) (fun c18 => ?_) (fun c18 => ?_)
      · --t18
        refine g_iinc (n := 51) C dX11_low_48 rfl rfl rfl (by decide) ?_
        refine g_goto (t := 4) C dX11_low_51 (by decide) ?_
        exact g_lv [0, 1, 2, 3] rfl (ihp (i_lt hn c9 hlep (by omega)) _ _ (by simp only [rlow]; first | (rw [if_pos c18]; exact ev) | (rw [if_neg c18, ← ev]; rfl)) (nI_1 p))
      · --f18
        refine g_iload_n (n := 22) C dX11_low_21 rfl rfl ?_
        refine g_aload_n (n := 23) C dX11_low_22 rfl rfl ?_
        refine m_get (n := 26) 5 C dX11_low_23 rfl (by decide) rfl w_1105 rfl ?_
        refine g_iload_n (n := 27) C dX11_low_26 rfl rfl ?_
        refine m_iald (n := 28) 5 (p) C dX11_low_27 rfl I (by decide) rfl rfl (by have := (i_lt hn c9 hlep (by omega)); omega) (by decide) ?_
        refine g_aload_n (n := 29) C dX11_low_28 rfl rfl ?_
        refine m_get (n := 32) 2 C dX11_low_29 rfl (by decide) rfl w_1102 rfl ?_
        refine g_aload_n (n := 33) C dX11_low_32 rfl rfl ?_
        refine m_get (n := 36) 3 C dX11_low_33 rfl (by decide) rfl w_1103 rfl ?_
        refine g_iload_n (n := 37) C dX11_low_36 rfl rfl ?_
        refine m_iald (n := 38) 3 (p) C dX11_low_37 rfl I (by decide) rfl rfl (by have := (i_lt hn c9 hlep (by omega)); omega) (by decide) ?_
        refine g_iload_n (n := 39) C dX11_low_38 rfl rfl ?_
        refine g_callS (n := 42) (As := [.int _, .int _]) C dX11_low_39 rfl mw_X11_apart w_1287 rfl rfl (room hR rfl) (ct_apart ?_)
        refine g_imul (n := 43) C dX11_low_42 rfl ?_
        refine g_isub (n := 44) C dX11_low_43 rfl ?_
        refine g_max (n := 47) C dX11_low_44 rfl mwM_max w_1291 (roomM hR rfl) ?_
        refine g_istore_n (n := 48) C dX11_low_47 rfl (by decide) ?_
        refine g_iinc (n := 51) C dX11_low_48 rfl rfl rfl (by decide) ?_
        refine g_goto (t := 4) C dX11_low_51 (by decide) ?_
        exact g_lv [0, 1, 2, 3] rfl (ihp (i_lt hn c9 hlep (by omega)) _ _ (by simp only [rlow]; first | (rw [if_pos c18]; exact ev) | (rw [if_neg c18, ← ev]; rfl)) (nI_1 p))
  exact g_lv [0, 1, 2, 3] rfl (lp 0 (Nat.zero_le _) _ _ rfl rfl)
theorem dX11_high_0 : decode cX11_high 0 = .ok (.bipush 100, 2) := by decide +kernel
theorem dX11_high_2 : decode cX11_high 2 = .ok (.istore_n 2, 1) := by decide +kernel
theorem dX11_high_3 : decode cX11_high 3 = .ok (.iconst 0, 1) := by decide +kernel
theorem dX11_high_4 : decode cX11_high 4 = .ok (.istore_n 3, 1) := by decide +kernel
theorem dX11_high_5 : decode cX11_high 5 = .ok (.iload_n 3, 1) := by decide +kernel
theorem dX11_high_6 : decode cX11_high 6 = .ok (.aload_n 0, 1) := by decide +kernel
theorem dX11_high_7 : decode cX11_high 7 = .ok (.getfield 83, 3) := by decide +kernel
theorem dX11_high_10 : decode cX11_high 10 = .ok (.if_icmp .ge 45, 3) := by decide +kernel
theorem dX11_high_13 : decode cX11_high 13 = .ok (.aload_n 0, 1) := by decide +kernel
theorem dX11_high_14 : decode cX11_high 14 = .ok (.getfield 20, 3) := by decide +kernel
theorem dX11_high_17 : decode cX11_high 17 = .ok (.iload_n 3, 1) := by decide +kernel
theorem dX11_high_18 : decode cX11_high 18 = .ok (.iaload, 1) := by decide +kernel
theorem dX11_high_19 : decode cX11_high 19 = .ok (.ifCond .lt 30, 3) := by decide +kernel
theorem dX11_high_22 : decode cX11_high 22 = .ok (.iload_n 2, 1) := by decide +kernel
theorem dX11_high_23 : decode cX11_high 23 = .ok (.aload_n 0, 1) := by decide +kernel
theorem dX11_high_24 : decode cX11_high 24 = .ok (.getfield 20, 3) := by decide +kernel
theorem dX11_high_27 : decode cX11_high 27 = .ok (.iload_n 3, 1) := by decide +kernel
theorem dX11_high_28 : decode cX11_high 28 = .ok (.iaload, 1) := by decide +kernel
theorem dX11_high_29 : decode cX11_high 29 = .ok (.aload_n 0, 1) := by decide +kernel
theorem dX11_high_30 : decode cX11_high 30 = .ok (.getfield 7, 3) := by decide +kernel
theorem dX11_high_33 : decode cX11_high 33 = .ok (.aload_n 0, 1) := by decide +kernel
theorem dX11_high_34 : decode cX11_high 34 = .ok (.getfield 13, 3) := by decide +kernel
theorem dX11_high_37 : decode cX11_high 37 = .ok (.iload_n 3, 1) := by decide +kernel
theorem dX11_high_38 : decode cX11_high 38 = .ok (.iaload, 1) := by decide +kernel
theorem dX11_high_39 : decode cX11_high 39 = .ok (.iload_n 1, 1) := by decide +kernel
theorem dX11_high_40 : decode cX11_high 40 = .ok (.invokestatic 180, 3) := by decide +kernel
theorem dX11_high_43 : decode cX11_high 43 = .ok (.imul, 1) := by decide +kernel
theorem dX11_high_44 : decode cX11_high 44 = .ok (.iadd, 1) := by decide +kernel
theorem dX11_high_45 : decode cX11_high 45 = .ok (.invokestatic 195, 3) := by decide +kernel
theorem dX11_high_48 : decode cX11_high 48 = .ok (.istore_n 2, 1) := by decide +kernel
theorem dX11_high_49 : decode cX11_high 49 = .ok (.iinc 3 1, 3) := by decide +kernel
theorem dX11_high_52 : decode cX11_high 52 = .ok (.goto (-47), 3) := by decide +kernel
theorem dX11_high_55 : decode cX11_high 55 = .ok (.iload_n 2, 1) := by decide +kernel
theorem dX11_high_56 : decode cX11_high 56 = .ok (.ireturn, 1) := by decide +kernel
set_option maxHeartbeats 400000 in
set_option maxRecDepth 20000 in
theorem ct_high {l : Launch} {E : Ev} {P : Value → AH → Prop} {o : Nat} {ad : Nat → Nat} {F : Nat → Int32} {A : Nat → Nat → Int32} {h : AH} (I : mI o ad) {s : Int32} {n : Nat} (hn : F 9 = nI n) (hn3 : n ≤ 30) (hp : P (.int (rhigh F A s n)) (mh E o ad F A h)) : Mt l E yX11_high cX11_high 4 (some .int) 2 90 0 0 [.ref o, .int s] (mh E o ad F A h) P := by
  refine Mt.of (by decide) (Nat.le_of_ble_eq_true rfl) ?_
  intro K hK hR C
  refine g_bipush (n := 2) (v := 100) C dX11_high_0 rfl (by decide) ?_
  refine g_istore_n (n := 3) C dX11_high_2 rfl (by decide) ?_
  refine g_iconst (n := 4) (v := 0) C dX11_high_3 rfl (by decide) ?_
  refine g_istore_n (n := 5) C dX11_high_4 rfl (by decide) ?_
  have lp : ∀ p : Nat, p ≤ n → ∀ (v x : Int32), v = rhigh F A s p → x = nI p → G K E 4 (QM K E (some .int) 0 0 P) 0 0 5 [(0, .ref o), (1, .int s), (2, .int v), (3, .int x)] [] (mh E o ad F A h) := by
    refine loopN (fun p => ∀ (v x : Int32), v = rhigh F A s p → x = nI p → G K E 4 (QM K E (some .int) 0 0 P) 0 0 5 [(0, .ref o), (1, .int s), (2, .int v), (3, .int x)] [] (mh E o ad F A h)) (n) ?_
    intro p hlep ihp v x ev ex
    subst ex
    refine g_iload_n (n := 6) C dX11_high_5 rfl rfl ?_
    refine g_aload_n (n := 7) C dX11_high_6 rfl rfl ?_
    refine m_get (n := 10) 9 C dX11_high_7 rfl (by decide) rfl w_1109 rfl ?_
    refine g_icmp_ge (n := 13) (t := 55) C dX11_high_10 rfl (by decide) (fun c10 => ?_) (fun c10 => ?_)
    · --t10
      refine g_iload_n (n := 56) C dX11_high_55 rfl rfl ?_
      refine g_iret C dX11_high_56 (by decide) (by decide) ?_
      have e : p = n := i_eq hn c10 hlep (by omega)
      subst e
      rw [ev]
      exact hp
    · --f10
      refine g_aload_n (n := 14) C dX11_high_13 rfl rfl ?_
      refine m_get (n := 17) 5 C dX11_high_14 rfl (by decide) rfl w_1105 rfl ?_
      refine g_iload_n (n := 18) C dX11_high_17 rfl rfl ?_
      refine m_iald (n := 19) 5 (p) C dX11_high_18 rfl I (by decide) rfl rfl (by have := (i_lt hn c10 hlep (by omega)); omega) (by decide) ?_
      refine g_if_lt (n := 22) (t := 49) C dX11_high_19 rfl (by decide) (fun c19 => ?_) (fun c19 => ?_)
      · --t19
        refine g_iinc (n := 52) C dX11_high_49 rfl rfl rfl (by decide) ?_
        refine g_goto (t := 5) C dX11_high_52 (by decide) ?_
        exact g_lv [0, 1, 2, 3] rfl (ihp (i_lt hn c10 hlep (by omega)) _ _ (by simp only [rhigh]; first | (rw [if_pos c19]; exact ev) | (rw [if_neg c19, ← ev]; rfl)) (nI_1 p))
      · --f19
        refine g_iload_n (n := 23) C dX11_high_22 rfl rfl ?_
        refine g_aload_n (n := 24) C dX11_high_23 rfl rfl ?_
        refine m_get (n := 27) 5 C dX11_high_24 rfl (by decide) rfl w_1105 rfl ?_
        refine g_iload_n (n := 28) C dX11_high_27 rfl rfl ?_
        refine m_iald (n := 29) 5 (p) C dX11_high_28 rfl I (by decide) rfl rfl (by have := (i_lt hn c10 hlep (by omega)); omega) (by decide) ?_
        refine g_aload_n (n := 30) C dX11_high_29 rfl rfl ?_
        refine m_get (n := 33) 2 C dX11_high_30 rfl (by decide) rfl w_1102 rfl ?_
        refine g_aload_n (n := 34) C dX11_high_33 rfl rfl ?_
        refine m_get (n := 37) 3 C dX11_high_34 rfl (by decide) rfl w_1103 rfl ?_
        refine g_iload_n (n := 38) C dX11_high_37 rfl rfl ?_
        refine m_iald (n := 39) 3 (p) C dX11_high_38 rfl I (by decide) rfl rfl (by have := (i_lt hn c10 hlep (by omega)); omega) (by decide) ?_
        refine g_iload_n (n := 40) C dX11_high_39 rfl rfl ?_
        refine g_callS (n := 43) (As := [.int _, .int _]) C dX11_high_40 rfl mw_X11_apart w_1287 rfl rfl (room hR rfl) (ct_apart ?_)
        refine g_imul (n := 44) C dX11_high_43 rfl ?_
        refine g_iadd (n := 45) C dX11_high_44 rfl ?_
        refine g_min (n := 48) C dX11_high_45 rfl mwM_min w_1308 (roomM hR rfl) ?_
        refine g_istore_n (n := 49) C dX11_high_48 rfl (by decide) ?_
        refine g_iinc (n := 52) C dX11_high_49 rfl rfl rfl (by decide) ?_
        refine g_goto (t := 5) C dX11_high_52 (by decide) ?_
        exact g_lv [0, 1, 2, 3] rfl (ihp (i_lt hn c10 hlep (by omega)) _ _ (by simp only [rhigh]; first | (rw [if_pos c19]; exact ev) | (rw [if_neg c19, ← ev]; rfl)) (nI_1 p))
  exact g_lv [0, 1, 2, 3] rfl (lp 0 (Nat.zero_le _) _ _ rfl rfl)
