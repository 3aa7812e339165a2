theorem loopN (W : Nat → Prop) (N : Nat) (hs : ∀ p, p ≤ N → (p < N → W (p + 1)) → W p) : ∀ p, p ≤ N → W p := by
  have key : ∀ k p, p + k = N → W p := by
    intro k
    induction k with
    | zero => intro p hp; exact hs p (by omega) (fun q => absurd q (by omega))
    | succ k ih => intro p hp; exact hs p (by omega) (fun _ => ih (p + 1) (by omega))
  exact fun p hp => key (N - p) p (by omega)
theorem i_lt {x : Int32} {n p : Nat} (hx : x = nI n) (c : ¬ x ≤ nI p) (hp : p ≤ n) (hn : n < 2147483648) : p < n := by
  rcases Nat.lt_or_ge p n with q | q
  · exact q
  · exact absurd (by rw [hx]; exact nI_le q (by omega)) c
theorem i_eq {x : Int32} {n p : Nat} (hx : x = nI n) (c : x ≤ nI p) (hp : p ≤ n) (hn : n < 2147483648) : p = n := by
  rw [hx] at c
  have := (nI_leI (a := n) (b := p) (by omega) (by omega)).mp c
  omega
def rapart (a b : Int32) : Int32 := imax (iabs ((a - a / 12 * 12) - (b - b / 12 * 12))) (iabs (a / 12 - b / 12))
def rlow (t : Int32) (A : Nat → Nat → Int32) (s : Int32) : Nat → Int32
  | 0 => 0
  | p + 1 => if A 5 p < 0 then rlow t A s p else imax (rlow t A s p) (A 5 p - t * rapart (A 3 p) s)
def rhigh (t : Int32) (A : Nat → Nat → Int32) (s : Int32) : Nat → Int32
  | 0 => 100
  | p + 1 => if A 5 p < 0 then rhigh t A s p else imin (rhigh t A s p) (A 5 p + t * rapart (A 3 p) s)
/-- a pit p lets another be sunk at s -/
def rok (A : Nat → Nat → Int32) (s : Int32) (p : Nat) : Prop := A 3 p ≠ s ∧ (¬ A 6 p < 0 ∨ ¬ rapart (A 3 p) s < A 10 0)
def rmay (A : Nat → Nat → Int32) (s : Int32) (n : Nat) : Prop := ∀ p, p < n → rok A s p
theorem dX11_apart_0 : decode cX11_apart 0 = .ok (.iload_n 0, 1) := by decide +kernel
theorem dX11_apart_1 : decode cX11_apart 1 = .ok (.bipush 12, 2) := by decide +kernel
theorem dX11_apart_3 : decode cX11_apart 3 = .ok (.irem, 1) := by decide +kernel
theorem dX11_apart_4 : decode cX11_apart 4 = .ok (.iload_n 1, 1) := by decide +kernel
theorem dX11_apart_5 : decode cX11_apart 5 = .ok (.bipush 12, 2) := by decide +kernel
theorem dX11_apart_7 : decode cX11_apart 7 = .ok (.irem, 1) := by decide +kernel
theorem dX11_apart_8 : decode cX11_apart 8 = .ok (.isub, 1) := by decide +kernel
theorem dX11_apart_9 : decode cX11_apart 9 = .ok (.invokestatic 170, 3) := by decide +kernel
theorem dX11_apart_12 : decode cX11_apart 12 = .ok (.iload_n 0, 1) := by decide +kernel
theorem dX11_apart_13 : decode cX11_apart 13 = .ok (.bipush 12, 2) := by decide +kernel
theorem dX11_apart_15 : decode cX11_apart 15 = .ok (.idiv, 1) := by decide +kernel
theorem dX11_apart_16 : decode cX11_apart 16 = .ok (.iload_n 1, 1) := by decide +kernel
theorem dX11_apart_17 : decode cX11_apart 17 = .ok (.bipush 12, 2) := by decide +kernel
theorem dX11_apart_19 : decode cX11_apart 19 = .ok (.idiv, 1) := by decide +kernel
theorem dX11_apart_20 : decode cX11_apart 20 = .ok (.isub, 1) := by decide +kernel
theorem dX11_apart_21 : decode cX11_apart 21 = .ok (.invokestatic 170, 3) := by decide +kernel
theorem dX11_apart_24 : decode cX11_apart 24 = .ok (.invokestatic 176, 3) := by decide +kernel
theorem dX11_apart_27 : decode cX11_apart 27 = .ok (.ireturn, 1) := by decide +kernel
set_option maxHeartbeats 400000 in
set_option maxRecDepth 20000 in
theorem ct_apart {l : Launch} {E : Ev} {P : Value → AH → Prop}  {h : AH} {a b : Int32} (hp : P (.int (rapart a b)) h) : Mt l E yX11_apart cX11_apart 2 (some .int) 1 21 0 0 [.int a, .int b] (h) P := by
  refine Mt.of (by decide) (Nat.le_of_ble_eq_true rfl) ?_
  intro K hK hR C
  refine g_iload_n (n := 1) C dX11_apart_0 rfl rfl ?_
  refine g_bipush (n := 3) (v := 12) C dX11_apart_1 rfl (by decide) ?_
  refine g_irem (n := 4) C dX11_apart_3 rfl (by decide) ?_
  refine g_iload_n (n := 5) C dX11_apart_4 rfl rfl ?_
  refine g_bipush (n := 7) (v := 12) C dX11_apart_5 rfl (by decide) ?_
  refine g_irem (n := 8) C dX11_apart_7 rfl (by decide) ?_
  refine g_isub (n := 9) C dX11_apart_8 rfl ?_
  refine g_abs (n := 12) C dX11_apart_9 rfl mwM_abs w_1290 (roomM hR rfl) ?_
  refine g_iload_n (n := 13) C dX11_apart_12 rfl rfl ?_
  refine g_bipush (n := 15) (v := 12) C dX11_apart_13 rfl (by decide) ?_
  refine g_idiv (n := 16) C dX11_apart_15 rfl (by decide) ?_
  refine g_iload_n (n := 17) C dX11_apart_16 rfl rfl ?_
  refine g_bipush (n := 19) (v := 12) C dX11_apart_17 rfl (by decide) ?_
  refine g_idiv (n := 20) C dX11_apart_19 rfl (by decide) ?_
  refine g_isub (n := 21) C dX11_apart_20 rfl ?_
  refine g_abs (n := 24) C dX11_apart_21 rfl mwM_abs w_1290 (roomM hR rfl) ?_
  refine g_max (n := 27) C dX11_apart_24 rfl mwM_max w_1291 (roomM hR rfl) ?_
  refine g_iret C dX11_apart_27 (by decide) (by decide) ?_
  exact hp
theorem dX11_low_0 : decode cX11_low 0 = .ok (.iconst 0, 1) := by decide +kernel
theorem dX11_low_1 : decode cX11_low 1 = .ok (.istore_n 2, 1) := by decide +kernel
theorem dX11_low_2 : decode cX11_low 2 = .ok (.iconst 0, 1) := by decide +kernel
theorem dX11_low_3 : decode cX11_low 3 = .ok (.istore_n 3, 1) := by decide +kernel
theorem dX11_low_4 : decode cX11_low 4 = .ok (.iload_n 3, 1) := by decide +kernel
theorem dX11_low_5 : decode cX11_low 5 = .ok (.aload_n 0, 1) := by decide +kernel
theorem dX11_low_6 : decode cX11_low 6 = .ok (.getfield 83, 3) := by decide +kernel
theorem dX11_low_9 : decode cX11_low 9 = .ok (.if_icmp .ge 45, 3) := by decide +kernel
theorem dX11_low_12 : decode cX11_low 12 = .ok (.aload_n 0, 1) := by decide +kernel
theorem dX11_low_13 : decode cX11_low 13 = .ok (.getfield 20, 3) := by decide +kernel
theorem dX11_low_16 : decode cX11_low 16 = .ok (.iload_n 3, 1) := by decide +kernel
theorem dX11_low_17 : decode cX11_low 17 = .ok (.iaload, 1) := by decide +kernel
theorem dX11_low_18 : decode cX11_low 18 = .ok (.ifCond .lt 30, 3) := by decide +kernel
theorem dX11_low_21 : decode cX11_low 21 = .ok (.iload_n 2, 1) := by decide +kernel
theorem dX11_low_22 : decode cX11_low 22 = .ok (.aload_n 0, 1) := by decide +kernel
theorem dX11_low_23 : decode cX11_low 23 = .ok (.getfield 20, 3) := by decide +kernel
theorem dX11_low_26 : decode cX11_low 26 = .ok (.iload_n 3, 1) := by decide +kernel
theorem dX11_low_27 : decode cX11_low 27 = .ok (.iaload, 1) := by decide +kernel
theorem dX11_low_28 : decode cX11_low 28 = .ok (.aload_n 0, 1) := by decide +kernel
theorem dX11_low_29 : decode cX11_low 29 = .ok (.getfield 7, 3) := by decide +kernel
theorem dX11_low_32 : decode cX11_low 32 = .ok (.aload_n 0, 1) := by decide +kernel
theorem dX11_low_33 : decode cX11_low 33 = .ok (.getfield 13, 3) := by decide +kernel
theorem dX11_low_36 : decode cX11_low 36 = .ok (.iload_n 3, 1) := by decide +kernel
theorem dX11_low_37 : decode cX11_low 37 = .ok (.iaload, 1) := by decide +kernel
theorem dX11_low_38 : decode cX11_low 38 = .ok (.iload_n 1, 1) := by decide +kernel
theorem dX11_low_39 : decode cX11_low 39 = .ok (.invokestatic 180, 3) := by decide +kernel
theorem dX11_low_42 : decode cX11_low 42 = .ok (.imul, 1) := by decide +kernel
theorem dX11_low_43 : decode cX11_low 43 = .ok (.isub, 1) := by decide +kernel
theorem dX11_low_44 : decode cX11_low 44 = .ok (.invokestatic 176, 3) := by decide +kernel
theorem dX11_low_47 : decode cX11_low 47 = .ok (.istore_n 2, 1) := by decide +kernel
theorem dX11_low_48 : decode cX11_low 48 = .ok (.iinc 3 1, 3) := by decide +kernel
theorem dX11_low_51 : decode cX11_low 51 = .ok (.goto (-47), 3) := by decide +kernel
theorem dX11_low_54 : decode cX11_low 54 = .ok (.iload_n 2, 1) := by decide +kernel
theorem dX11_low_55 : decode cX11_low 55 = .ok (.ireturn, 1) := by decide +kernel
set_option maxHeartbeats 400000 in
set_option maxRecDepth 20000 in
theorem ct_low {l : Launch} {E : Ev} {P : Value → AH → Prop} {o : Nat} {ad : Nat → Nat} {F : Nat → Int32} {A : Nat → Nat → Int32} {h : AH} (I : mI o ad) {s : Int32} {n : Nat} (hn : F 9 = nI n) (hn3 : n ≤ 30) (hp : P (.int (rlow (F 2) A s n)) (mh E o ad F A h)) : Mt l E yX11_low cX11_low 4 (some .int) 2 42 0 0 [.ref o, .int s] (mh E o ad F A h) P := by
  refine Mt.of (by decide) (Nat.le_of_ble_eq_true rfl) ?_
  intro K hK hR C
  refine g_iconst (n := 1) (v := 0) C dX11_low_0 rfl (by decide) ?_
  refine g_istore_n (n := 2) C dX11_low_1 rfl (by decide) ?_
  refine g_iconst (n := 3) (v := 0) C dX11_low_2 rfl (by decide) ?_
  refine g_istore_n (n := 4) C dX11_low_3 rfl (by decide) ?_
  have lp : ∀ p : Nat, p ≤ n → ∀ (v x : Int32), v = rlow (F 2) A s p → x = nI p → G K E 4 (QM K E (some .int) 0 0 P) 0 0 4 [(0, .ref o), (1, .int s), (2, .int v), (3, .int x)] [] (mh E o ad F A h) := by
    refine loopN (fun p => ∀ (v x : Int32), v = rlow (F 2) A s p → x = nI p → G K E 4 (QM K E (some .int) 0 0 P) 0 0 4 [(0, .ref o), (1, .int s), (2, .int v), (3, .int x)] [] (mh E o ad F A h)) (n) ?_
    intro p hlep ihp v x ev ex
    subst ex
    refine g_iload_n (n := 5) C dX11_low_4 rfl rfl ?_
    refine g_aload_n (n := 6) C dX11_low_5 rfl rfl ?_
    refine m_get (n := 9) 9 C dX11_low_6 rfl (by decide) rfl w_1109 rfl ?_
    refine g_icmp_ge (n := 12) (t := 54) C dX11_low_9 rfl (by decide) (fun zc9 => ?_) (fun zc9 => ?_)
    · --t9
      refine g_iload_n (n := 55) C dX11_low_54 rfl rfl ?_
      refine g_iret C dX11_low_55 (by decide) (by decide) ?_
      have e : p = n := i_eq hn zc9 hlep (by omega)
      subst e
      rw [ev]
      exact hp
    · --f9
      refine g_aload_n (n := 13) C dX11_low_12 rfl rfl ?_
      refine m_get (n := 16) 5 C dX11_low_13 rfl (by decide) rfl w_1105 rfl ?_
      refine g_iload_n (n := 17) C dX11_low_16 rfl rfl ?_
      refine m_iald (n := 18) 5 (p) C dX11_low_17 rfl I (by decide) rfl rfl (by have := (i_lt hn zc9 hlep (by omega)); omega) (by decide) rfl ?_
      refine g_if_lt (n := 21) (t := 48) C dX11_low_18 rfl (by decide) (fun zc18 => ?_) (fun zc18 => ?_)
      · --t18
        refine g_iinc (n := 51) C dX11_low_48 rfl rfl rfl (by decide) ?_
        refine g_goto (t := 4) C dX11_low_51 (by decide) ?_
        exact g_lv [0, 1, 2, 3] rfl (ihp (i_lt hn zc9 hlep (by omega)) _ _ (by simp only [rlow]; first | (rw [if_pos zc18]; exact ev) | (rw [if_neg zc18, ← ev]; rfl)) (nI_1 p))
      · --f18
        refine g_iload_n (n := 22) C dX11_low_21 rfl rfl ?_
        refine g_aload_n (n := 23) C dX11_low_22 rfl rfl ?_
        refine m_get (n := 26) 5 C dX11_low_23 rfl (by decide) rfl w_1105 rfl ?_
        refine g_iload_n (n := 27) C dX11_low_26 rfl rfl ?_
        refine m_iald (n := 28) 5 (p) C dX11_low_27 rfl I (by decide) rfl rfl (by have := (i_lt hn zc9 hlep (by omega)); omega) (by decide) rfl ?_
        refine g_aload_n (n := 29) C dX11_low_28 rfl rfl ?_
        refine m_get (n := 32) 2 C dX11_low_29 rfl (by decide) rfl w_1102 rfl ?_
        refine g_aload_n (n := 33) C dX11_low_32 rfl rfl ?_
        refine m_get (n := 36) 3 C dX11_low_33 rfl (by decide) rfl w_1103 rfl ?_
        refine g_iload_n (n := 37) C dX11_low_36 rfl rfl ?_
        refine m_iald (n := 38) 3 (p) C dX11_low_37 rfl I (by decide) rfl rfl (by have := (i_lt hn zc9 hlep (by omega)); omega) (by decide) rfl ?_
        refine g_iload_n (n := 39) C dX11_low_38 rfl rfl ?_
        refine g_callS (n := 42) (As := [.int _, .int _]) C dX11_low_39 rfl mw_X11_apart w_1287 rfl rfl (room hR rfl) (ct_apart ?_)
        refine g_imul (n := 43) C dX11_low_42 rfl ?_
        refine g_isub (n := 44) C dX11_low_43 rfl ?_
        refine g_max (n := 47) C dX11_low_44 rfl mwM_max w_1291 (roomM hR rfl) ?_
        refine g_istore_n (n := 48) C dX11_low_47 rfl (by decide) ?_
        refine g_iinc (n := 51) C dX11_low_48 rfl rfl rfl (by decide) ?_
        refine g_goto (t := 4) C dX11_low_51 (by decide) ?_
        exact g_lv [0, 1, 2, 3] rfl (ihp (i_lt hn zc9 hlep (by omega)) _ _ (by simp only [rlow]; first | (rw [if_pos zc18]; exact ev) | (rw [if_neg zc18, ← ev]; rfl)) (nI_1 p))
  exact g_lv [0, 1, 2, 3] rfl (lp 0 (Nat.zero_le _) _ _ rfl rfl)
theorem dX11_high_0 : decode cX11_high 0 = .ok (.bipush 100, 2) := by decide +kernel
theorem dX11_high_2 : decode cX11_high 2 = .ok (.istore_n 2, 1) := by decide +kernel
theorem dX11_high_3 : decode cX11_high 3 = .ok (.iconst 0, 1) := by decide +kernel
theorem dX11_high_4 : decode cX11_high 4 = .ok (.istore_n 3, 1) := by decide +kernel
theorem dX11_high_5 : decode cX11_high 5 = .ok (.iload_n 3, 1) := by decide +kernel
theorem dX11_high_6 : decode cX11_high 6 = .ok (.aload_n 0, 1) := by decide +kernel
theorem dX11_high_7 : decode cX11_high 7 = .ok (.getfield 83, 3) := by decide +kernel
theorem dX11_high_10 : decode cX11_high 10 = .ok (.if_icmp .ge 45, 3) := by decide +kernel
theorem dX11_high_13 : decode cX11_high 13 = .ok (.aload_n 0, 1) := by decide +kernel
theorem dX11_high_14 : decode cX11_high 14 = .ok (.getfield 20, 3) := by decide +kernel
theorem dX11_high_17 : decode cX11_high 17 = .ok (.iload_n 3, 1) := by decide +kernel
theorem dX11_high_18 : decode cX11_high 18 = .ok (.iaload, 1) := by decide +kernel
theorem dX11_high_19 : decode cX11_high 19 = .ok (.ifCond .lt 30, 3) := by decide +kernel
theorem dX11_high_22 : decode cX11_high 22 = .ok (.iload_n 2, 1) := by decide +kernel
theorem dX11_high_23 : decode cX11_high 23 = .ok (.aload_n 0, 1) := by decide +kernel
theorem dX11_high_24 : decode cX11_high 24 = .ok (.getfield 20, 3) := by decide +kernel
theorem dX11_high_27 : decode cX11_high 27 = .ok (.iload_n 3, 1) := by decide +kernel
theorem dX11_high_28 : decode cX11_high 28 = .ok (.iaload, 1) := by decide +kernel
theorem dX11_high_29 : decode cX11_high 29 = .ok (.aload_n 0, 1) := by decide +kernel
theorem dX11_high_30 : decode cX11_high 30 = .ok (.getfield 7, 3) := by decide +kernel
theorem dX11_high_33 : decode cX11_high 33 = .ok (.aload_n 0, 1) := by decide +kernel
theorem dX11_high_34 : decode cX11_high 34 = .ok (.getfield 13, 3) := by decide +kernel
theorem dX11_high_37 : decode cX11_high 37 = .ok (.iload_n 3, 1) := by decide +kernel
theorem dX11_high_38 : decode cX11_high 38 = .ok (.iaload, 1) := by decide +kernel
theorem dX11_high_39 : decode cX11_high 39 = .ok (.iload_n 1, 1) := by decide +kernel
theorem dX11_high_40 : decode cX11_high 40 = .ok (.invokestatic 180, 3) := by decide +kernel
theorem dX11_high_43 : decode cX11_high 43 = .ok (.imul, 1) := by decide +kernel
theorem dX11_high_44 : decode cX11_high 44 = .ok (.iadd, 1) := by decide +kernel
theorem dX11_high_45 : decode cX11_high 45 = .ok (.invokestatic 195, 3) := by decide +kernel
theorem dX11_high_48 : decode cX11_high 48 = .ok (.istore_n 2, 1) := by decide +kernel
theorem dX11_high_49 : decode cX11_high 49 = .ok (.iinc 3 1, 3) := by decide +kernel
theorem dX11_high_52 : decode cX11_high 52 = .ok (.goto (-47), 3) := by decide +kernel
theorem dX11_high_55 : decode cX11_high 55 = .ok (.iload_n 2, 1) := by decide +kernel
theorem dX11_high_56 : decode cX11_high 56 = .ok (.ireturn, 1) := by decide +kernel
set_option maxHeartbeats 400000 in
set_option maxRecDepth 20000 in
theorem ct_high {l : Launch} {E : Ev} {P : Value → AH → Prop} {o : Nat} {ad : Nat → Nat} {F : Nat → Int32} {A : Nat → Nat → Int32} {h : AH} (I : mI o ad) {s : Int32} {n : Nat} (hn : F 9 = nI n) (hn3 : n ≤ 30) (hp : P (.int (rhigh (F 2) A s n)) (mh E o ad F A h)) : Mt l E yX11_high cX11_high 4 (some .int) 2 42 0 0 [.ref o, .int s] (mh E o ad F A h) P := by
  refine Mt.of (by decide) (Nat.le_of_ble_eq_true rfl) ?_
  intro K hK hR C
  refine g_bipush (n := 2) (v := 100) C dX11_high_0 rfl (by decide) ?_
  refine g_istore_n (n := 3) C dX11_high_2 rfl (by decide) ?_
  refine g_iconst (n := 4) (v := 0) C dX11_high_3 rfl (by decide) ?_
  refine g_istore_n (n := 5) C dX11_high_4 rfl (by decide) ?_
  have lp : ∀ p : Nat, p ≤ n → ∀ (v x : Int32), v = rhigh (F 2) A s p → x = nI p → G K E 4 (QM K E (some .int) 0 0 P) 0 0 5 [(0, .ref o), (1, .int s), (2, .int v), (3, .int x)] [] (mh E o ad F A h) := by
    refine loopN (fun p => ∀ (v x : Int32), v = rhigh (F 2) A s p → x = nI p → G K E 4 (QM K E (some .int) 0 0 P) 0 0 5 [(0, .ref o), (1, .int s), (2, .int v), (3, .int x)] [] (mh E o ad F A h)) (n) ?_
    intro p hlep ihp v x ev ex
    subst ex
    refine g_iload_n (n := 6) C dX11_high_5 rfl rfl ?_
    refine g_aload_n (n := 7) C dX11_high_6 rfl rfl ?_
    refine m_get (n := 10) 9 C dX11_high_7 rfl (by decide) rfl w_1109 rfl ?_
    refine g_icmp_ge (n := 13) (t := 55) C dX11_high_10 rfl (by decide) (fun zc10 => ?_) (fun zc10 => ?_)
    · --t10
      refine g_iload_n (n := 56) C dX11_high_55 rfl rfl ?_
      refine g_iret C dX11_high_56 (by decide) (by decide) ?_
      have e : p = n := i_eq hn zc10 hlep (by omega)
      subst e
      rw [ev]
      exact hp
    · --f10
      refine g_aload_n (n := 14) C dX11_high_13 rfl rfl ?_
      refine m_get (n := 17) 5 C dX11_high_14 rfl (by decide) rfl w_1105 rfl ?_
      refine g_iload_n (n := 18) C dX11_high_17 rfl rfl ?_
      refine m_iald (n := 19) 5 (p) C dX11_high_18 rfl I (by decide) rfl rfl (by have := (i_lt hn zc10 hlep (by omega)); omega) (by decide) rfl ?_
      refine g_if_lt (n := 22) (t := 49) C dX11_high_19 rfl (by decide) (fun zc19 => ?_) (fun zc19 => ?_)
      · --t19
        refine g_iinc (n := 52) C dX11_high_49 rfl rfl rfl (by decide) ?_
        refine g_goto (t := 5) C dX11_high_52 (by decide) ?_
        exact g_lv [0, 1, 2, 3] rfl (ihp (i_lt hn zc10 hlep (by omega)) _ _ (by simp only [rhigh]; first | (rw [if_pos zc19]; exact ev) | (rw [if_neg zc19, ← ev]; rfl)) (nI_1 p))
      · --f19
        refine g_iload_n (n := 23) C dX11_high_22 rfl rfl ?_
        refine g_aload_n (n := 24) C dX11_high_23 rfl rfl ?_
        refine m_get (n := 27) 5 C dX11_high_24 rfl (by decide) rfl w_1105 rfl ?_
        refine g_iload_n (n := 28) C dX11_high_27 rfl rfl ?_
        refine m_iald (n := 29) 5 (p) C dX11_high_28 rfl I (by decide) rfl rfl (by have := (i_lt hn zc10 hlep (by omega)); omega) (by decide) rfl ?_
        refine g_aload_n (n := 30) C dX11_high_29 rfl rfl ?_
        refine m_get (n := 33) 2 C dX11_high_30 rfl (by decide) rfl w_1102 rfl ?_
        refine g_aload_n (n := 34) C dX11_high_33 rfl rfl ?_
        refine m_get (n := 37) 3 C dX11_high_34 rfl (by decide) rfl w_1103 rfl ?_
        refine g_iload_n (n := 38) C dX11_high_37 rfl rfl ?_
        refine m_iald (n := 39) 3 (p) C dX11_high_38 rfl I (by decide) rfl rfl (by have := (i_lt hn zc10 hlep (by omega)); omega) (by decide) rfl ?_
        refine g_iload_n (n := 40) C dX11_high_39 rfl rfl ?_
        refine g_callS (n := 43) (As := [.int _, .int _]) C dX11_high_40 rfl mw_X11_apart w_1287 rfl rfl (room hR rfl) (ct_apart ?_)
        refine g_imul (n := 44) C dX11_high_43 rfl ?_
        refine g_iadd (n := 45) C dX11_high_44 rfl ?_
        refine g_min (n := 48) C dX11_high_45 rfl mwM_min w_1308 (roomM hR rfl) ?_
        refine g_istore_n (n := 49) C dX11_high_48 rfl (by decide) ?_
        refine g_iinc (n := 52) C dX11_high_49 rfl rfl rfl (by decide) ?_
        refine g_goto (t := 5) C dX11_high_52 (by decide) ?_
        exact g_lv [0, 1, 2, 3] rfl (ihp (i_lt hn zc10 hlep (by omega)) _ _ (by simp only [rhigh]; first | (rw [if_pos zc19]; exact ev) | (rw [if_neg zc19, ← ev]; rfl)) (nI_1 p))
  exact g_lv [0, 1, 2, 3] rfl (lp 0 (Nat.zero_le _) _ _ rfl rfl)
theorem ix_of {x m : Int32} {n : Nat} (h0 : ¬ x < 0) (h1 : ¬ m - 1 < x) (hm : m = nI n) (hn : n < 2147483648) : ∃ j : Nat, j < n ∧ x = nI j := by
  obtain ⟨j, hj, rfl⟩ := nI_of h0
  refine ⟨j, ?_, rfl⟩
  rcases Nat.lt_or_ge j n with q | q
  · exact q
  · refine absurd ?_ h1
    rw [hm]
    cases n with
    | zero =>
      rw [show nI 0 - 1 = (-1 : Int32) from by decide, Int32.lt_iff_toInt_lt, nI_toInt hj]
      show (-1 : Int) < _
      omega
    | succ n =>
      rw [nI_pred]
      exact nI_lt (by omega) hj
theorem ix_no {x m : Int32} {n j : Nat} (hx : x = nI j) (hj : j < n) (hm : m = nI n) (hn : n < 2147483648) : ¬ (x < 0 ∨ m - 1 < x) := by
  subst hx
  rintro (h | h)
  · exact nI_pos (by omega) h
  · rw [hm] at h
    cases n with
    | zero => omega
    | succ n =>
      rw [nI_pred] at h
      exact nI_nlt (by omega) (by omega) h
theorem r_may {A : Nat → Nat → Int32} {s v : Int32} {p : Nat} (ev : (v = 1 ∧ rmay A s p) ∨ (v = 0 ∧ ¬ rmay A s p)) (c : ¬ v = 0) (zc2 : ¬ A 3 p = s) (zc3 : 0 ≤ A 6 p ∨ ¬ rapart (A 3 p) s < A 10 0) : ((1 : Int32) = 1 ∧ rmay A s (p + 1)) ∨ ((1 : Int32) = 0 ∧ ¬ rmay A s (p + 1)) := by
  rcases ev with ⟨-, e⟩ | ⟨e, -⟩
  · refine Or.inl ⟨rfl, fun q hq => ?_⟩
    rcases Nat.lt_or_ge q p with h | h
    · exact e q h
    · have e9 : q = p := by omega
      subst e9
      exact ⟨zc2, zc3.imp (fun h => Int32.not_lt.mpr h) id⟩
  · exact absurd e c
theorem r_mayN {A : Nat → Nat → Int32} {s v : Int32} {p : Nat} (c : (((v = 1 ∧ rmay A s p) ∨ (v = 0 ∧ ¬ rmay A s p)) ∧ v = 0) ∨ A 3 p = s ∨ (¬ 0 ≤ A 6 p ∧ rapart (A 3 p) s < A 10 0)) : ((0 : Int32) = 1 ∧ rmay A s (p + 1)) ∨ ((0 : Int32) = 0 ∧ ¬ rmay A s (p + 1)) := by
  refine Or.inr ⟨rfl, fun h => ?_⟩
  rcases c with ⟨⟨e1, -⟩ | ⟨-, e⟩, e2⟩ | e | ⟨e1, e2⟩
  · rw [e1] at e2; exact absurd e2 (by decide)
  · exact e (fun q hq => h q (by omega))
  · exact (h p (by omega)).1 e
  · rcases (h p (by omega)).2 with q | q
    · exact e1 (Int32.not_lt.mp q)
    · exact q e2
theorem dX11_mayBeSunk_0 : decode cX11_mayBeSunk 0 = .ok (.iconst 1, 1) := by decide +kernel
theorem dX11_mayBeSunk_1 : decode cX11_mayBeSunk 1 = .ok (.istore_n 2, 1) := by decide +kernel
theorem dX11_mayBeSunk_2 : decode cX11_mayBeSunk 2 = .ok (.iconst 0, 1) := by decide +kernel
theorem dX11_mayBeSunk_3 : decode cX11_mayBeSunk 3 = .ok (.istore_n 3, 1) := by decide +kernel
theorem dX11_mayBeSunk_4 : decode cX11_mayBeSunk 4 = .ok (.iload_n 3, 1) := by decide +kernel
theorem dX11_mayBeSunk_5 : decode cX11_mayBeSunk 5 = .ok (.aload_n 0, 1) := by decide +kernel
theorem dX11_mayBeSunk_6 : decode cX11_mayBeSunk 6 = .ok (.getfield 83, 3) := by decide +kernel
theorem dX11_mayBeSunk_9 : decode cX11_mayBeSunk 9 = .ok (.if_icmp .ge 57, 3) := by decide +kernel
theorem dX11_mayBeSunk_12 : decode cX11_mayBeSunk 12 = .ok (.iload_n 2, 1) := by decide +kernel
theorem dX11_mayBeSunk_13 : decode cX11_mayBeSunk 13 = .ok (.ifCond .eq 45, 3) := by decide +kernel
theorem dX11_mayBeSunk_16 : decode cX11_mayBeSunk 16 = .ok (.aload_n 0, 1) := by decide +kernel
theorem dX11_mayBeSunk_17 : decode cX11_mayBeSunk 17 = .ok (.getfield 13, 3) := by decide +kernel
theorem dX11_mayBeSunk_20 : decode cX11_mayBeSunk 20 = .ok (.iload_n 3, 1) := by decide +kernel
theorem dX11_mayBeSunk_21 : decode cX11_mayBeSunk 21 = .ok (.iaload, 1) := by decide +kernel
theorem dX11_mayBeSunk_22 : decode cX11_mayBeSunk 22 = .ok (.iload_n 1, 1) := by decide +kernel
theorem dX11_mayBeSunk_23 : decode cX11_mayBeSunk 23 = .ok (.if_icmp .eq 35, 3) := by decide +kernel
theorem dX11_mayBeSunk_26 : decode cX11_mayBeSunk 26 = .ok (.aload_n 0, 1) := by decide +kernel
theorem dX11_mayBeSunk_27 : decode cX11_mayBeSunk 27 = .ok (.getfield 23, 3) := by decide +kernel
theorem dX11_mayBeSunk_30 : decode cX11_mayBeSunk 30 = .ok (.iload_n 3, 1) := by decide +kernel
theorem dX11_mayBeSunk_31 : decode cX11_mayBeSunk 31 = .ok (.iaload, 1) := by decide +kernel
theorem dX11_mayBeSunk_32 : decode cX11_mayBeSunk 32 = .ok (.ifCond .ge 22, 3) := by decide +kernel
theorem dX11_mayBeSunk_35 : decode cX11_mayBeSunk 35 = .ok (.aload_n 0, 1) := by decide +kernel
theorem dX11_mayBeSunk_36 : decode cX11_mayBeSunk 36 = .ok (.getfield 13, 3) := by decide +kernel
theorem dX11_mayBeSunk_39 : decode cX11_mayBeSunk 39 = .ok (.iload_n 3, 1) := by decide +kernel
theorem dX11_mayBeSunk_40 : decode cX11_mayBeSunk 40 = .ok (.iaload, 1) := by decide +kernel
theorem dX11_mayBeSunk_41 : decode cX11_mayBeSunk 41 = .ok (.iload_n 1, 1) := by decide +kernel
theorem dX11_mayBeSunk_42 : decode cX11_mayBeSunk 42 = .ok (.invokestatic 180, 3) := by decide +kernel
theorem dX11_mayBeSunk_45 : decode cX11_mayBeSunk 45 = .ok (.aload_n 0, 1) := by decide +kernel
theorem dX11_mayBeSunk_46 : decode cX11_mayBeSunk 46 = .ok (.getfield 32, 3) := by decide +kernel
theorem dX11_mayBeSunk_49 : decode cX11_mayBeSunk 49 = .ok (.iconst 0, 1) := by decide +kernel
theorem dX11_mayBeSunk_50 : decode cX11_mayBeSunk 50 = .ok (.iaload, 1) := by decide +kernel
theorem dX11_mayBeSunk_51 : decode cX11_mayBeSunk 51 = .ok (.if_icmp .lt 7, 3) := by decide +kernel
theorem dX11_mayBeSunk_54 : decode cX11_mayBeSunk 54 = .ok (.iconst 1, 1) := by decide +kernel
theorem dX11_mayBeSunk_55 : decode cX11_mayBeSunk 55 = .ok (.goto 4, 3) := by decide +kernel
theorem dX11_mayBeSunk_58 : decode cX11_mayBeSunk 58 = .ok (.iconst 0, 1) := by decide +kernel
theorem dX11_mayBeSunk_59 : decode cX11_mayBeSunk 59 = .ok (.istore_n 2, 1) := by decide +kernel
theorem dX11_mayBeSunk_60 : decode cX11_mayBeSunk 60 = .ok (.iinc 3 1, 3) := by decide +kernel
theorem dX11_mayBeSunk_63 : decode cX11_mayBeSunk 63 = .ok (.goto (-59), 3) := by decide +kernel
theorem dX11_mayBeSunk_66 : decode cX11_mayBeSunk 66 = .ok (.iload_n 2, 1) := by decide +kernel
theorem dX11_mayBeSunk_67 : decode cX11_mayBeSunk 67 = .ok (.ireturn, 1) := by decide +kernel
set_option maxHeartbeats 400000 in
set_option maxRecDepth 20000 in
theorem ct_may {l : Launch} {E : Ev} {P : Value → AH → Prop} {o : Nat} {ad : Nat → Nat} {F : Nat → Int32} {A : Nat → Nat → Int32} {h : AH} (I : mI o ad) {s : Int32} {n : Nat} (hn : F 9 = nI n) (hn3 : n ≤ 30) (k1 : rmay A s n → P (.int 1) (mh E o ad F A h)) (k2 : ¬ rmay A s n → P (.int 0) (mh E o ad F A h)) : Mt l E yX11_mayBeSunk cX11_mayBeSunk 4 (some .boolean) 2 42 0 0 [.ref o, .int s] (mh E o ad F A h) P := by
  refine Mt.of (by decide) (Nat.le_of_ble_eq_true rfl) ?_
  intro K hK hR C
  refine g_iconst (n := 1) (v := 1) C dX11_mayBeSunk_0 rfl (by decide) ?_
  refine g_istore_n (n := 2) C dX11_mayBeSunk_1 rfl (by decide) ?_
  refine g_iconst (n := 3) (v := 0) C dX11_mayBeSunk_2 rfl (by decide) ?_
  refine g_istore_n (n := 4) C dX11_mayBeSunk_3 rfl (by decide) ?_
  have lp : ∀ p : Nat, p ≤ n → ∀ (v x : Int32), (v = 1 ∧ rmay A s p) ∨ (v = 0 ∧ ¬ rmay A s p) → x = nI p → G K E 4 (QM K E (some .boolean) 0 0 P) 0 0 4 [(0, .ref o), (1, .int s), (2, .int v), (3, .int x)] [] (mh E o ad F A h) := by
    refine loopN (fun p => ∀ (v x : Int32), (v = 1 ∧ rmay A s p) ∨ (v = 0 ∧ ¬ rmay A s p) → x = nI p → G K E 4 (QM K E (some .boolean) 0 0 P) 0 0 4 [(0, .ref o), (1, .int s), (2, .int v), (3, .int x)] [] (mh E o ad F A h)) (n) ?_
    intro p hlep ihp v x ev ex
    subst ex
    refine g_iload_n (n := 5) C dX11_mayBeSunk_4 rfl rfl ?_
    refine g_aload_n (n := 6) C dX11_mayBeSunk_5 rfl rfl ?_
    refine m_get (n := 9) 9 C dX11_mayBeSunk_6 rfl (by decide) rfl w_1109 rfl ?_
    refine g_icmp_ge (n := 12) (t := 66) C dX11_mayBeSunk_9 rfl (by decide) (fun zc9 => ?_) (fun zc9 => ?_)
    · --t9
      refine g_iload_n (n := 67) C dX11_mayBeSunk_66 rfl rfl ?_
      refine g_zret C dX11_mayBeSunk_67 (by decide) (by decide) (by rcases ev with ⟨e1, e2⟩ | ⟨e1, e2⟩ <;> rw [e1] <;> rfl) ?_
      have e : p = n := i_eq hn zc9 hlep (by omega)
      subst e
      rcases ev with ⟨e1, e2⟩ | ⟨e1, e2⟩
      · rw [e1]; exact k1 e2
      · rw [e1]; exact k2 e2
    · --f9
      refine g_iload_n (n := 13) C dX11_mayBeSunk_12 rfl rfl ?_
      refine g_if_eq (n := 16) (t := 58) C dX11_mayBeSunk_13 rfl (by decide) (fun zc13 => ?_) (fun zc13 => ?_)
      · --t13
        refine g_iconst (n := 59) (v := 0) C dX11_mayBeSunk_58 rfl (by decide) ?_
        refine g_istore_n (n := 60) C dX11_mayBeSunk_59 rfl (by decide) ?_
        refine g_iinc (n := 63) C dX11_mayBeSunk_60 rfl rfl rfl (by decide) ?_
        refine g_goto (t := 4) C dX11_mayBeSunk_63 (by decide) ?_
        exact g_lv [0, 1, 2, 3] rfl (ihp (i_lt hn zc9 hlep (by omega)) _ _ (by first | exact r_may ev zc13 zc23 (Or.inl zc32) | exact r_may ev zc13 zc23 (Or.inr zc51) | exact r_mayN (Or.inl ⟨ev, zc13⟩) | exact r_mayN (v := 0) (Or.inr (Or.inl zc23)) | exact r_mayN (v := 0) (Or.inr (Or.inr ⟨zc32, zc51⟩))) (nI_1 p))
      · --f13
        refine g_aload_n (n := 17) C dX11_mayBeSunk_16 rfl rfl ?_
        refine m_get (n := 20) 3 C dX11_mayBeSunk_17 rfl (by decide) rfl w_1103 rfl ?_
        refine g_iload_n (n := 21) C dX11_mayBeSunk_20 rfl rfl ?_
        refine m_iald (n := 22) 3 (p) C dX11_mayBeSunk_21 rfl I (by decide) rfl rfl (by have := (i_lt hn zc9 hlep (by omega)); omega) (by decide) rfl ?_
        refine g_iload_n (n := 23) C dX11_mayBeSunk_22 rfl rfl ?_
        refine g_icmp_eq (n := 26) (t := 58) C dX11_mayBeSunk_23 rfl (by decide) (fun zc23 => ?_) (fun zc23 => ?_)
        · --t23
          refine g_iconst (n := 59) (v := 0) C dX11_mayBeSunk_58 rfl (by decide) ?_
          refine g_istore_n (n := 60) C dX11_mayBeSunk_59 rfl (by decide) ?_
          refine g_iinc (n := 63) C dX11_mayBeSunk_60 rfl rfl rfl (by decide) ?_
          refine g_goto (t := 4) C dX11_mayBeSunk_63 (by decide) ?_
          exact g_lv [0, 1, 2, 3] rfl (ihp (i_lt hn zc9 hlep (by omega)) _ _ (by first | exact r_may ev zc13 zc23 (Or.inl zc32) | exact r_may ev zc13 zc23 (Or.inr zc51) | exact r_mayN (Or.inl ⟨ev, zc13⟩) | exact r_mayN (v := 0) (Or.inr (Or.inl zc23)) | exact r_mayN (v := 0) (Or.inr (Or.inr ⟨zc32, zc51⟩))) (nI_1 p))
        · --f23
          refine g_aload_n (n := 27) C dX11_mayBeSunk_26 rfl rfl ?_
          refine m_get (n := 30) 6 C dX11_mayBeSunk_27 rfl (by decide) rfl w_1106 rfl ?_
          refine g_iload_n (n := 31) C dX11_mayBeSunk_30 rfl rfl ?_
          refine m_iald (n := 32) 6 (p) C dX11_mayBeSunk_31 rfl I (by decide) rfl rfl (by have := (i_lt hn zc9 hlep (by omega)); omega) (by decide) rfl ?_
          refine g_if_ge (n := 35) (t := 54) C dX11_mayBeSunk_32 rfl (by decide) (fun zc32 => ?_) (fun zc32 => ?_)
          · --t32
            refine g_iconst (n := 55) (v := 1) C dX11_mayBeSunk_54 rfl (by decide) ?_
            refine g_goto (t := 59) C dX11_mayBeSunk_55 (by decide) ?_
            refine g_istore_n (n := 60) C dX11_mayBeSunk_59 rfl (by decide) ?_
            refine g_iinc (n := 63) C dX11_mayBeSunk_60 rfl rfl rfl (by decide) ?_
            refine g_goto (t := 4) C dX11_mayBeSunk_63 (by decide) ?_
            exact g_lv [0, 1, 2, 3] rfl (ihp (i_lt hn zc9 hlep (by omega)) _ _ (by first | exact r_may ev zc13 zc23 (Or.inl zc32) | exact r_may ev zc13 zc23 (Or.inr zc51) | exact r_mayN (Or.inl ⟨ev, zc13⟩) | exact r_mayN (v := 0) (Or.inr (Or.inl zc23)) | exact r_mayN (v := 0) (Or.inr (Or.inr ⟨zc32, zc51⟩))) (nI_1 p))
          · --f32
            refine g_aload_n (n := 36) C dX11_mayBeSunk_35 rfl rfl ?_
            refine m_get (n := 39) 3 C dX11_mayBeSunk_36 rfl (by decide) rfl w_1103 rfl ?_
            refine g_iload_n (n := 40) C dX11_mayBeSunk_39 rfl rfl ?_
            refine m_iald (n := 41) 3 (p) C dX11_mayBeSunk_40 rfl I (by decide) rfl rfl (by have := (i_lt hn zc9 hlep (by omega)); omega) (by decide) rfl ?_
            refine g_iload_n (n := 42) C dX11_mayBeSunk_41 rfl rfl ?_
            refine g_callS (n := 45) (As := [.int _, .int _]) C dX11_mayBeSunk_42 rfl mw_X11_apart w_1287 rfl rfl (room hR rfl) (ct_apart ?_)
            refine g_aload_n (n := 46) C dX11_mayBeSunk_45 rfl rfl ?_
            refine m_get (n := 49) 10 C dX11_mayBeSunk_46 rfl (by decide) rfl w_1110 rfl ?_
            refine g_iconst (n := 50) (v := 0) C dX11_mayBeSunk_49 rfl (by decide) ?_
            refine m_iald (n := 51) 10 (0) C dX11_mayBeSunk_50 rfl I (by decide) rfl rfl (by decide) (by decide) rfl ?_
            refine g_icmp_lt (n := 54) (t := 58) C dX11_mayBeSunk_51 rfl (by decide) (fun zc51 => ?_) (fun zc51 => ?_)
            · --t51
              refine g_iconst (n := 59) (v := 0) C dX11_mayBeSunk_58 rfl (by decide) ?_
              refine g_istore_n (n := 60) C dX11_mayBeSunk_59 rfl (by decide) ?_
              refine g_iinc (n := 63) C dX11_mayBeSunk_60 rfl rfl rfl (by decide) ?_
              refine g_goto (t := 4) C dX11_mayBeSunk_63 (by decide) ?_
              exact g_lv [0, 1, 2, 3] rfl (ihp (i_lt hn zc9 hlep (by omega)) _ _ (by first | exact r_may ev zc13 zc23 (Or.inl zc32) | exact r_may ev zc13 zc23 (Or.inr zc51) | exact r_mayN (Or.inl ⟨ev, zc13⟩) | exact r_mayN (v := 0) (Or.inr (Or.inl zc23)) | exact r_mayN (v := 0) (Or.inr (Or.inr ⟨zc32, zc51⟩))) (nI_1 p))
            · --f51
              refine g_iconst (n := 55) (v := 1) C dX11_mayBeSunk_54 rfl (by decide) ?_
              refine g_goto (t := 59) C dX11_mayBeSunk_55 (by decide) ?_
              refine g_istore_n (n := 60) C dX11_mayBeSunk_59 rfl (by decide) ?_
              refine g_iinc (n := 63) C dX11_mayBeSunk_60 rfl rfl rfl (by decide) ?_
              refine g_goto (t := 4) C dX11_mayBeSunk_63 (by decide) ?_
              exact g_lv [0, 1, 2, 3] rfl (ihp (i_lt hn zc9 hlep (by omega)) _ _ (by first | exact r_may ev zc13 zc23 (Or.inl zc32) | exact r_may ev zc13 zc23 (Or.inr zc51) | exact r_mayN (Or.inl ⟨ev, zc13⟩) | exact r_mayN (v := 0) (Or.inr (Or.inl zc23)) | exact r_mayN (v := 0) (Or.inr (Or.inr ⟨zc32, zc51⟩))) (nI_1 p))
  exact g_lv [0, 1, 2, 3] rfl (lp 0 (Nat.zero_le _) _ _ (Or.inl ⟨rfl, fun _ h => absurd h (Nat.not_lt_zero _)⟩) rfl)
theorem n_eq {x : Int32} {n k : Nat} {z : Int32} (hx : x = nI n) (c : x = z) (hz : z = nI k) (hn : n < 2147483648) (hk : k < 2147483648) : n = k := (nI_eq hn hk).mp (hx.symm.trans (c.trans hz))
theorem n_lt {x : Int32} {n k : Nat} {z : Int32} (hx : x = nI n) (c : ¬ x = z) (hz : z = nI k) (hle : n ≤ k) : n < k := by
  rcases Nat.lt_or_ge n k with q | q
  · exact q
  · exact absurd (by rw [hx, hz, show n = k by omega]) c
theorem n_or {a b : Prop} (h1 : ¬ a) (h2 : ¬ b) : ¬ (a ∨ b) := fun q => q.elim h1 h2
theorem dX11_sink_0 : decode cX11_sink 0 = .ok (.aload_n 0, 1) := by decide +kernel
theorem dX11_sink_1 : decode cX11_sink 1 = .ok (.iconst 0, 1) := by decide +kernel
theorem dX11_sink_2 : decode cX11_sink 2 = .ok (.putfield 76, 3) := by decide +kernel
theorem dX11_sink_5 : decode cX11_sink 5 = .ok (.aload_n 0, 1) := by decide +kernel
theorem dX11_sink_6 : decode cX11_sink 6 = .ok (.iload_n 1, 1) := by decide +kernel
theorem dX11_sink_7 : decode cX11_sink 7 = .ok (.invokestatic 182, 3) := by decide +kernel
theorem dX11_sink_10 : decode cX11_sink 10 = .ok (.iconst 1, 1) := by decide +kernel
theorem dX11_sink_11 : decode cX11_sink 11 = .ok (.invokevirtual 162, 3) := by decide +kernel
theorem dX11_sink_14 : decode cX11_sink 14 = .ok (.ifCond .ne 25, 3) := by decide +kernel
theorem dX11_sink_17 : decode cX11_sink 17 = .ok (.aload_n 0, 1) := by decide +kernel
theorem dX11_sink_18 : decode cX11_sink 18 = .ok (.aload_n 0, 1) := by decide +kernel
theorem dX11_sink_19 : decode cX11_sink 19 = .ok (.getfield 83, 3) := by decide +kernel
theorem dX11_sink_22 : decode cX11_sink 22 = .ok (.bipush 30, 2) := by decide +kernel
theorem dX11_sink_24 : decode cX11_sink 24 = .ok (.if_icmp .ne 7, 3) := by decide +kernel
theorem dX11_sink_27 : decode cX11_sink 27 = .ok (.iconst 1, 1) := by decide +kernel
theorem dX11_sink_28 : decode cX11_sink 28 = .ok (.goto 4, 3) := by decide +kernel
theorem dX11_sink_31 : decode cX11_sink 31 = .ok (.iconst 0, 1) := by decide +kernel
theorem dX11_sink_32 : decode cX11_sink 32 = .ok (.iconst 2, 1) := by decide +kernel
theorem dX11_sink_33 : decode cX11_sink 33 = .ok (.invokevirtual 162, 3) := by decide +kernel
theorem dX11_sink_36 : decode cX11_sink 36 = .ok (.ifCond .eq 5, 3) := by decide +kernel
theorem dX11_sink_39 : decode cX11_sink 39 = .ok (.iconst 0, 1) := by decide +kernel
theorem dX11_sink_40 : decode cX11_sink 40 = .ok (.ireturn, 1) := by decide +kernel
theorem dX11_sink_41 : decode cX11_sink 41 = .ok (.aload_n 0, 1) := by decide +kernel
theorem dX11_sink_42 : decode cX11_sink 42 = .ok (.iload_n 1, 1) := by decide +kernel
theorem dX11_sink_43 : decode cX11_sink 43 = .ok (.invokevirtual 186, 3) := by decide +kernel
theorem dX11_sink_46 : decode cX11_sink 46 = .ok (.ifCond .ne 5, 3) := by decide +kernel
theorem dX11_sink_49 : decode cX11_sink 49 = .ok (.iconst (-1), 1) := by decide +kernel
theorem dX11_sink_50 : decode cX11_sink 50 = .ok (.ireturn, 1) := by decide +kernel
theorem dX11_sink_51 : decode cX11_sink 51 = .ok (.aload_n 0, 1) := by decide +kernel
theorem dX11_sink_52 : decode cX11_sink 52 = .ok (.getfield 13, 3) := by decide +kernel
theorem dX11_sink_55 : decode cX11_sink 55 = .ok (.aload_n 0, 1) := by decide +kernel
theorem dX11_sink_56 : decode cX11_sink 56 = .ok (.getfield 83, 3) := by decide +kernel
theorem dX11_sink_59 : decode cX11_sink 59 = .ok (.iload_n 1, 1) := by decide +kernel
theorem dX11_sink_60 : decode cX11_sink 60 = .ok (.iastore, 1) := by decide +kernel
theorem dX11_sink_61 : decode cX11_sink 61 = .ok (.aload_n 0, 1) := by decide +kernel
theorem dX11_sink_62 : decode cX11_sink 62 = .ok (.getfield 17, 3) := by decide +kernel
theorem dX11_sink_65 : decode cX11_sink 65 = .ok (.aload_n 0, 1) := by decide +kernel
theorem dX11_sink_66 : decode cX11_sink 66 = .ok (.getfield 83, 3) := by decide +kernel
theorem dX11_sink_69 : decode cX11_sink 69 = .ok (.aload_n 0, 1) := by decide +kernel
theorem dX11_sink_70 : decode cX11_sink 70 = .ok (.getfield 189, 3) := by decide +kernel
theorem dX11_sink_73 : decode cX11_sink 73 = .ok (.iastore, 1) := by decide +kernel
theorem dX11_sink_74 : decode cX11_sink 74 = .ok (.aload_n 0, 1) := by decide +kernel
theorem dX11_sink_75 : decode cX11_sink 75 = .ok (.getfield 20, 3) := by decide +kernel
theorem dX11_sink_78 : decode cX11_sink 78 = .ok (.aload_n 0, 1) := by decide +kernel
theorem dX11_sink_79 : decode cX11_sink 79 = .ok (.getfield 83, 3) := by decide +kernel
theorem dX11_sink_82 : decode cX11_sink 82 = .ok (.iconst (-1), 1) := by decide +kernel
theorem dX11_sink_83 : decode cX11_sink 83 = .ok (.iastore, 1) := by decide +kernel
theorem dX11_sink_84 : decode cX11_sink 84 = .ok (.aload_n 0, 1) := by decide +kernel
theorem dX11_sink_85 : decode cX11_sink 85 = .ok (.getfield 23, 3) := by decide +kernel
theorem dX11_sink_88 : decode cX11_sink 88 = .ok (.aload_n 0, 1) := by decide +kernel
theorem dX11_sink_89 : decode cX11_sink 89 = .ok (.getfield 83, 3) := by decide +kernel
theorem dX11_sink_92 : decode cX11_sink 92 = .ok (.iconst (-1), 1) := by decide +kernel
theorem dX11_sink_93 : decode cX11_sink 93 = .ok (.iastore, 1) := by decide +kernel
theorem dX11_sink_94 : decode cX11_sink 94 = .ok (.aload_n 0, 1) := by decide +kernel
theorem dX11_sink_95 : decode cX11_sink 95 = .ok (.getfield 26, 3) := by decide +kernel
theorem dX11_sink_98 : decode cX11_sink 98 = .ok (.aload_n 0, 1) := by decide +kernel
theorem dX11_sink_99 : decode cX11_sink 99 = .ok (.getfield 83, 3) := by decide +kernel
theorem dX11_sink_102 : decode cX11_sink 102 = .ok (.aload_n 0, 1) := by decide +kernel
theorem dX11_sink_103 : decode cX11_sink 103 = .ok (.getfield 189, 3) := by decide +kernel
theorem dX11_sink_106 : decode cX11_sink 106 = .ok (.aload_n 0, 1) := by decide +kernel
theorem dX11_sink_107 : decode cX11_sink 107 = .ok (.getfield 32, 3) := by decide +kernel
theorem dX11_sink_110 : decode cX11_sink 110 = .ok (.iconst 1, 1) := by decide +kernel
theorem dX11_sink_111 : decode cX11_sink 111 = .ok (.iaload, 1) := by decide +kernel
theorem dX11_sink_112 : decode cX11_sink 112 = .ok (.iadd, 1) := by decide +kernel
theorem dX11_sink_113 : decode cX11_sink 113 = .ok (.iastore, 1) := by decide +kernel
theorem dX11_sink_114 : decode cX11_sink 114 = .ok (.aload_n 0, 1) := by decide +kernel
theorem dX11_sink_115 : decode cX11_sink 115 = .ok (.getfield 29, 3) := by decide +kernel
theorem dX11_sink_118 : decode cX11_sink 118 = .ok (.aload_n 0, 1) := by decide +kernel
theorem dX11_sink_119 : decode cX11_sink 119 = .ok (.getfield 83, 3) := by decide +kernel
theorem dX11_sink_122 : decode cX11_sink 122 = .ok (.aload_n 0, 1) := by decide +kernel
theorem dX11_sink_123 : decode cX11_sink 123 = .ok (.getfield 32, 3) := by decide +kernel
theorem dX11_sink_126 : decode cX11_sink 126 = .ok (.iconst 2, 1) := by decide +kernel
theorem dX11_sink_127 : decode cX11_sink 127 = .ok (.iaload, 1) := by decide +kernel
theorem dX11_sink_128 : decode cX11_sink 128 = .ok (.iastore, 1) := by decide +kernel
theorem dX11_sink_129 : decode cX11_sink 129 = .ok (.aload_n 0, 1) := by decide +kernel
theorem dX11_sink_130 : decode cX11_sink 130 = .ok (.dup, 1) := by decide +kernel
theorem dX11_sink_131 : decode cX11_sink 131 = .ok (.getfield 83, 3) := by decide +kernel
theorem dX11_sink_134 : decode cX11_sink 134 = .ok (.iconst 1, 1) := by decide +kernel
theorem dX11_sink_135 : decode cX11_sink 135 = .ok (.iadd, 1) := by decide +kernel
theorem dX11_sink_136 : decode cX11_sink 136 = .ok (.putfield 83, 3) := by decide +kernel
theorem dX11_sink_139 : decode cX11_sink 139 = .ok (.aload_n 0, 1) := by decide +kernel
theorem dX11_sink_140 : decode cX11_sink 140 = .ok (.getfield 83, 3) := by decide +kernel
theorem dX11_sink_143 : decode cX11_sink 143 = .ok (.iconst 1, 1) := by decide +kernel
theorem dX11_sink_144 : decode cX11_sink 144 = .ok (.isub, 1) := by decide +kernel
theorem dX11_sink_145 : decode cX11_sink 145 = .ok (.ireturn, 1) := by decide +kernel
set_option maxHeartbeats 400000 in
set_option maxRecDepth 20000 in
theorem ct_sink {l : Launch} {E : Ev} {P : Value → AH → Prop} {o : Nat} {ad : Nat → Nat} {F : Nat → Int32} {A : Nat → Nat → Int32} {h : AH} (I : mI o ad) {n : Nat} (hn : F 9 = nI n) (hn3 : n ≤ 30) {s : Int32} (k1 : s < 0 ∨ 95 < s → P (.int 0) (mh E o ad (upd (upd F 0 0) 0 1) A h)) (k2 : ¬ (s < 0 ∨ 95 < s) → n = 30 → P (.int 0) (mh E o ad (upd (upd F 0 0) 0 2) A h)) (k3 : ¬ (s < 0 ∨ 95 < s) → n < 30 → ¬ rmay A s n → P (.int (-1)) (mh E o ad (upd F 0 0) A h)) (k4 : ¬ (s < 0 ∨ 95 < s) → n < 30 → rmay A s n → P (.int (nI n)) (mh E o ad (upd (upd F 0 0) 9 (nI (n + 1))) (aset (aset (aset (aset (aset (aset A 3 n s) 4 n (F 1)) 5 n (-1)) 6 n (-1)) 7 n (F 1 + A 10 1)) 8 n (A 10 2)) h)) : Mt l E yX11_sink cX11_sink 2 (some .int) 9 194 0 0 [.ref o, .int s] (mh E o ad F A h) P := by
  refine Mt.of (by decide) (Nat.le_of_ble_eq_true rfl) ?_
  intro K hK hR C
  refine g_aload_n (n := 1) C dX11_sink_0 rfl rfl ?_
  refine g_iconst (n := 2) (v := 0) C dX11_sink_1 rfl (by decide) ?_
  refine m_put (n := 5) 0 C dX11_sink_2 rfl (by decide) w_1100 rfl rfl rfl mfs_0 ?_
  refine g_aload_n (n := 6) C dX11_sink_5 rfl rfl ?_
  refine g_iload_n (n := 7) C dX11_sink_6 rfl rfl ?_
  refine g_callS (n := 10) (As := [.int _]) C dX11_sink_7 rfl mw_X11_noSquare w_1280 rfl rfl (room hR rfl) (ct_noSquare (fun za7 zb7 => ?_) (fun za7 => ?_))
  · --k7.0
    refine g_iconst (n := 11) (v := 1) C dX11_sink_10 rfl (by decide) ?_
    refine g_callV (n := 14) (As := [.int _, .int _]) C dX11_sink_11 rfl mw_X11_throwsIf w_1257 (g_recv C mh_o rfl) rfl rfl (room hR rfl) (ct_throwsIf0 ?_)
    refine g_if_ne (n := 17) (t := 39) C dX11_sink_14 rfl (by decide) (fun zc14 => ?_) (fun zc14 => ?_)
    · exact absurd zc14 (by decide)
    refine g_aload_n (n := 18) C dX11_sink_17 rfl rfl ?_
    refine g_aload_n (n := 19) C dX11_sink_18 rfl rfl ?_
    refine m_get (n := 22) 9 C dX11_sink_19 rfl (by decide) rfl w_1109 rfl ?_
    refine g_bipush (n := 24) (v := 30) C dX11_sink_22 rfl (by decide) ?_
    refine g_icmp_ne (n := 27) (t := 31) C dX11_sink_24 rfl (by decide) (fun zc24 => ?_) (fun zc24 => ?_)
    · --t24
      refine g_iconst (n := 32) (v := 0) C dX11_sink_31 rfl (by decide) ?_
      refine g_iconst (n := 33) (v := 2) C dX11_sink_32 rfl (by decide) ?_
      refine g_callV (n := 36) (As := [.int _, .int _]) C dX11_sink_33 rfl mw_X11_throwsIf w_1257 (g_recv C mh_o rfl) rfl rfl (room hR rfl) (ct_throwsIf0 ?_)
      refine g_if_eq (n := 39) (t := 41) C dX11_sink_36 rfl (by decide) (fun zc36 => ?_) (fun zc36 => ?_)
      rotate_left
      · exact absurd zc36 (by decide)
      refine g_aload_n (n := 42) C dX11_sink_41 rfl rfl ?_
      refine g_iload_n (n := 43) C dX11_sink_42 rfl rfl ?_
      refine g_callV (n := 46) (As := [.int _]) C dX11_sink_43 rfl mw_X11_mayBeSunk w_1283 (g_recv C mh_o rfl) rfl rfl (room hR rfl) (ct_may I hn hn3 (fun za43 => ?_) (fun za43 => ?_))
      · --k43.0
        refine g_if_ne (n := 49) (t := 51) C dX11_sink_46 rfl (by decide) (fun zc46 => ?_) (fun zc46 => ?_)
        rotate_left
        · exact absurd zc46 (by decide)
        have hlt : n < 30 := n_lt (show upd F 0 0 9 = nI n from hn) zc24 rfl hn3
        refine g_aload_n (n := 52) C dX11_sink_51 rfl rfl ?_
        refine m_get (n := 55) 3 C dX11_sink_52 rfl (by decide) rfl w_1103 rfl ?_
        refine g_aload_n (n := 56) C dX11_sink_55 rfl rfl ?_
        refine m_get (n := 59) 9 C dX11_sink_56 rfl (by decide) rfl w_1109 rfl ?_
        refine g_iload_n (n := 60) C dX11_sink_59 rfl rfl ?_
        refine m_iast (n := 61) 3 (n) C dX11_sink_60 rfl I (by decide) (fun _ => rfl) hn hlt (by decide) ?_
        refine g_aload_n (n := 62) C dX11_sink_61 rfl rfl ?_
        refine m_get (n := 65) 4 C dX11_sink_62 rfl (by decide) rfl w_1104 rfl ?_
        refine g_aload_n (n := 66) C dX11_sink_65 rfl rfl ?_
        refine m_get (n := 69) 9 C dX11_sink_66 rfl (by decide) rfl w_1109 rfl ?_
        refine g_aload_n (n := 70) C dX11_sink_69 rfl rfl ?_
        refine m_get (n := 73) 1 C dX11_sink_70 rfl (by decide) rfl w_1101 rfl ?_
        refine m_iast (n := 74) 4 (n) C dX11_sink_73 rfl I (by decide) (fun _ => rfl) hn hlt (by decide) ?_
        refine g_aload_n (n := 75) C dX11_sink_74 rfl rfl ?_
        refine m_get (n := 78) 5 C dX11_sink_75 rfl (by decide) rfl w_1105 rfl ?_
        refine g_aload_n (n := 79) C dX11_sink_78 rfl rfl ?_
        refine m_get (n := 82) 9 C dX11_sink_79 rfl (by decide) rfl w_1109 rfl ?_
        refine g_iconst (n := 83) (v := (-1)) C dX11_sink_82 rfl (by decide) ?_
        refine m_iast (n := 84) 5 (n) C dX11_sink_83 rfl I (by decide) (fun _ => rfl) hn hlt (by decide) ?_
        refine g_aload_n (n := 85) C dX11_sink_84 rfl rfl ?_
        refine m_get (n := 88) 6 C dX11_sink_85 rfl (by decide) rfl w_1106 rfl ?_
        refine g_aload_n (n := 89) C dX11_sink_88 rfl rfl ?_
        refine m_get (n := 92) 9 C dX11_sink_89 rfl (by decide) rfl w_1109 rfl ?_
        refine g_iconst (n := 93) (v := (-1)) C dX11_sink_92 rfl (by decide) ?_
        refine m_iast (n := 94) 6 (n) C dX11_sink_93 rfl I (by decide) (fun _ => rfl) hn hlt (by decide) ?_
        refine g_aload_n (n := 95) C dX11_sink_94 rfl rfl ?_
        refine m_get (n := 98) 7 C dX11_sink_95 rfl (by decide) rfl w_1107 rfl ?_
        refine g_aload_n (n := 99) C dX11_sink_98 rfl rfl ?_
        refine m_get (n := 102) 9 C dX11_sink_99 rfl (by decide) rfl w_1109 rfl ?_
        refine g_aload_n (n := 103) C dX11_sink_102 rfl rfl ?_
        refine m_get (n := 106) 1 C dX11_sink_103 rfl (by decide) rfl w_1101 rfl ?_
        refine g_aload_n (n := 107) C dX11_sink_106 rfl rfl ?_
        refine m_get (n := 110) 10 C dX11_sink_107 rfl (by decide) rfl w_1110 rfl ?_
        refine g_iconst (n := 111) (v := 1) C dX11_sink_110 rfl (by decide) ?_
        refine m_iald (n := 112) 10 (1) C dX11_sink_111 rfl I (by decide) rfl rfl (by decide) (by decide) rfl ?_
        refine g_iadd (n := 113) C dX11_sink_112 rfl ?_
        refine m_iast (n := 114) 7 (n) C dX11_sink_113 rfl I (by decide) (fun _ => rfl) hn hlt (by decide) ?_
        refine g_aload_n (n := 115) C dX11_sink_114 rfl rfl ?_
        refine m_get (n := 118) 8 C dX11_sink_115 rfl (by decide) rfl w_1108 rfl ?_
        refine g_aload_n (n := 119) C dX11_sink_118 rfl rfl ?_
        refine m_get (n := 122) 9 C dX11_sink_119 rfl (by decide) rfl w_1109 rfl ?_
        refine g_aload_n (n := 123) C dX11_sink_122 rfl rfl ?_
        refine m_get (n := 126) 10 C dX11_sink_123 rfl (by decide) rfl w_1110 rfl ?_
        refine g_iconst (n := 127) (v := 2) C dX11_sink_126 rfl (by decide) ?_
        refine m_iald (n := 128) 10 (2) C dX11_sink_127 rfl I (by decide) rfl rfl (by decide) (by decide) rfl ?_
        refine m_iast (n := 129) 8 (n) C dX11_sink_128 rfl I (by decide) (fun _ => rfl) hn hlt (by decide) ?_
        refine g_aload_n (n := 130) C dX11_sink_129 rfl rfl ?_
        refine g_dup (n := 131) C dX11_sink_130 rfl rfl ?_
        refine m_get (n := 134) 9 C dX11_sink_131 rfl (by decide) rfl w_1109 rfl ?_
        refine g_iconst (n := 135) (v := 1) C dX11_sink_134 rfl (by decide) ?_
        refine g_iadd (n := 136) C dX11_sink_135 rfl ?_
        refine m_put (n := 139) 9 C dX11_sink_136 rfl (by decide) w_1109 rfl rfl rfl mfs_9 ?_
        refine g_aload_n (n := 140) C dX11_sink_139 rfl rfl ?_
        refine m_get (n := 143) 9 C dX11_sink_140 rfl (by decide) rfl w_1109 rfl ?_
        refine g_iconst (n := 144) (v := 1) C dX11_sink_143 rfl (by decide) ?_
        refine g_isub (n := 145) C dX11_sink_144 rfl ?_
        refine g_iret C dX11_sink_145 (by decide) (by decide) ?_
        have e1 : upd F 0 0 9 + 1 = nI (n + 1) := by
          show F 9 + 1 = _
          rw [hn]; exact nI_1 n
        have e2 : nI (n + 1) - 1 = nI n := nI_pred n
        rw [e1]
        show P (.int (nI (n + 1) - 1)) _
        rw [e2]
        exact k4 (n_or za7 zb7) hlt za43
      · --k43.1
        refine g_if_ne (n := 49) (t := 51) C dX11_sink_46 rfl (by decide) (fun zc46 => ?_) (fun zc46 => ?_)
        · exact absurd zc46 (by decide)
        refine g_iconst (n := 50) (v := (-1)) C dX11_sink_49 rfl (by decide) ?_
        refine g_iret C dX11_sink_50 (by decide) (by decide) ?_
        exact k3 (n_or za7 zb7) (n_lt (show upd F 0 0 9 = nI n from hn) zc24 rfl hn3) za43
    · --f24
      refine g_iconst (n := 28) (v := 1) C dX11_sink_27 rfl (by decide) ?_
      refine g_goto (t := 32) C dX11_sink_28 (by decide) ?_
      refine g_iconst (n := 33) (v := 2) C dX11_sink_32 rfl (by decide) ?_
      refine g_callV (n := 36) (As := [.int _, .int _]) C dX11_sink_33 rfl mw_X11_throwsIf w_1257 (g_recv C mh_o rfl) rfl rfl (room hR rfl) (ct_throwsIf1 ?_)
      refine g_if_eq (n := 39) (t := 41) C dX11_sink_36 rfl (by decide) (fun zc36 => ?_) (fun zc36 => ?_)
      · exact absurd zc36 (by decide)
      refine g_iconst (n := 40) (v := 0) C dX11_sink_39 rfl (by decide) ?_
      refine g_iret C dX11_sink_40 (by decide) (by decide) ?_
      first | exact k1 (by assumption) | exact k2 (n_or za7 zb7) (n_eq (show upd F 0 0 9 = nI n from hn) zc24 rfl (by omega) (by decide))
  · --k7.1
    refine g_iconst (n := 11) (v := 1) C dX11_sink_10 rfl (by decide) ?_
    refine g_callV (n := 14) (As := [.int _, .int _]) C dX11_sink_11 rfl mw_X11_throwsIf w_1257 (g_recv C mh_o rfl) rfl rfl (room hR rfl) (ct_throwsIf1 ?_)
    refine g_if_ne (n := 17) (t := 39) C dX11_sink_14 rfl (by decide) (fun zc14 => ?_) (fun zc14 => ?_)
    rotate_left
    · exact absurd zc14 (by decide)
    refine g_iconst (n := 40) (v := 0) C dX11_sink_39 rfl (by decide) ?_
    refine g_iret C dX11_sink_40 (by decide) (by decide) ?_
    first | exact k1 (by assumption) | exact k2 (n_or za7 zb7) (n_eq (show upd F 0 0 9 = nI n from hn) zc24 rfl (by omega) (by decide))
theorem dX11_wash_0 : decode cX11_wash 0 = .ok (.aload_n 0, 1) := by decide +kernel
theorem dX11_wash_1 : decode cX11_wash 1 = .ok (.iconst 0, 1) := by decide +kernel
theorem dX11_wash_2 : decode cX11_wash 2 = .ok (.putfield 76, 3) := by decide +kernel
theorem dX11_wash_5 : decode cX11_wash 5 = .ok (.aload_n 0, 1) := by decide +kernel
theorem dX11_wash_6 : decode cX11_wash 6 = .ok (.aload_n 0, 1) := by decide +kernel
theorem dX11_wash_7 : decode cX11_wash 7 = .ok (.iload_n 1, 1) := by decide +kernel
theorem dX11_wash_8 : decode cX11_wash 8 = .ok (.invokevirtual 192, 3) := by decide +kernel
theorem dX11_wash_11 : decode cX11_wash 11 = .ok (.iconst 1, 1) := by decide +kernel
theorem dX11_wash_12 : decode cX11_wash 12 = .ok (.invokevirtual 162, 3) := by decide +kernel
theorem dX11_wash_15 : decode cX11_wash 15 = .ok (.ifCond .ne 35, 3) := by decide +kernel
theorem dX11_wash_18 : decode cX11_wash 18 = .ok (.aload_n 0, 1) := by decide +kernel
theorem dX11_wash_19 : decode cX11_wash 19 = .ok (.iload_n 2, 1) := by decide +kernel
theorem dX11_wash_20 : decode cX11_wash 20 = .ok (.iconst 0, 1) := by decide +kernel
theorem dX11_wash_21 : decode cX11_wash 21 = .ok (.bipush 100, 2) := by decide +kernel
theorem dX11_wash_23 : decode cX11_wash 23 = .ok (.invokestatic 79, 3) := by decide +kernel
theorem dX11_wash_26 : decode cX11_wash 26 = .ok (.ifCond .ne 7, 3) := by decide +kernel
theorem dX11_wash_29 : decode cX11_wash 29 = .ok (.iconst 1, 1) := by decide +kernel
theorem dX11_wash_30 : decode cX11_wash 30 = .ok (.goto 4, 3) := by decide +kernel
theorem dX11_wash_33 : decode cX11_wash 33 = .ok (.iconst 0, 1) := by decide +kernel
theorem dX11_wash_34 : decode cX11_wash 34 = .ok (.iconst 2, 1) := by decide +kernel
theorem dX11_wash_35 : decode cX11_wash 35 = .ok (.invokevirtual 162, 3) := by decide +kernel
theorem dX11_wash_38 : decode cX11_wash 38 = .ok (.ifCond .ne 12, 3) := by decide +kernel
theorem dX11_wash_41 : decode cX11_wash 41 = .ok (.aload_n 0, 1) := by decide +kernel
theorem dX11_wash_42 : decode cX11_wash 42 = .ok (.getfield 20, 3) := by decide +kernel
theorem dX11_wash_45 : decode cX11_wash 45 = .ok (.iload_n 1, 1) := by decide +kernel
theorem dX11_wash_46 : decode cX11_wash 46 = .ok (.iaload, 1) := by decide +kernel
theorem dX11_wash_47 : decode cX11_wash 47 = .ok (.ifCond .lt 5, 3) := by decide +kernel
theorem dX11_wash_50 : decode cX11_wash 50 = .ok (.iconst 0, 1) := by decide +kernel
theorem dX11_wash_51 : decode cX11_wash 51 = .ok (.ireturn, 1) := by decide +kernel
theorem dX11_wash_52 : decode cX11_wash 52 = .ok (.aload_n 0, 1) := by decide +kernel
theorem dX11_wash_53 : decode cX11_wash 53 = .ok (.getfield 20, 3) := by decide +kernel
theorem dX11_wash_56 : decode cX11_wash 56 = .ok (.iload_n 1, 1) := by decide +kernel
theorem dX11_wash_57 : decode cX11_wash 57 = .ok (.iload_n 2, 1) := by decide +kernel
theorem dX11_wash_58 : decode cX11_wash 58 = .ok (.iastore, 1) := by decide +kernel
theorem dX11_wash_59 : decode cX11_wash 59 = .ok (.iconst 1, 1) := by decide +kernel
theorem dX11_wash_60 : decode cX11_wash 60 = .ok (.ireturn, 1) := by decide +kernel
set_option maxHeartbeats 400000 in
set_option maxRecDepth 20000 in
theorem ct_wash {l : Launch} {E : Ev} {P : Value → AH → Prop} {o : Nat} {ad : Nat → Nat} {F : Nat → Int32} {A : Nat → Nat → Int32} {h : AH} (I : mI o ad) {n : Nat} (hn : F 9 = nI n) (hn3 : n ≤ 30) {p g : Int32} (k1 : p < 0 ∨ F 9 - 1 < p → P (.int 0) (mh E o ad (upd (upd F 0 0) 0 1) A h)) (k2 : ∀ j, j < n → p = nI j → (g < 0 ∨ 100 < g) → P (.int 0) (mh E o ad (upd (upd F 0 0) 0 2) A h)) (k3 : ∀ j, j < n → p = nI j → ¬ (g < 0 ∨ 100 < g) → ¬ A 5 j < 0 → P (.int 0) (mh E o ad (upd F 0 0) A h)) (k4 : ∀ j, j < n → p = nI j → ¬ (g < 0 ∨ 100 < g) → A 5 j < 0 → P (.int 1) (mh E o ad (upd F 0 0) (aset A 5 j g) h)) : Mt l E yX11_wash cX11_wash 3 (some .boolean) 8 134 0 0 [.ref o, .int p, .int g] (mh E o ad F A h) P := by
  refine Mt.of (by decide) (Nat.le_of_ble_eq_true rfl) ?_
  intro K hK hR C
  refine g_aload_n (n := 1) C dX11_wash_0 rfl rfl ?_
  refine g_iconst (n := 2) (v := 0) C dX11_wash_1 rfl (by decide) ?_
  refine m_put (n := 5) 0 C dX11_wash_2 rfl (by decide) w_1100 rfl rfl rfl mfs_0 ?_
  refine g_aload_n (n := 6) C dX11_wash_5 rfl rfl ?_
  refine g_aload_n (n := 7) C dX11_wash_6 rfl rfl ?_
  refine g_iload_n (n := 8) C dX11_wash_7 rfl rfl ?_
  refine g_callV (n := 11) (As := [.int _]) C dX11_wash_8 rfl mw_X11_noPit w_1296 (g_recv C mh_o rfl) rfl rfl (room hR rfl) (ct_noPit (fun za8 zb8 => ?_) (fun za8 => ?_))
  · --k8.0
    obtain ⟨j, hj, rfl⟩ := ix_of za8 zb8 (show upd F 0 0 9 = nI n from hn) (by omega)
    refine g_iconst (n := 12) (v := 1) C dX11_wash_11 rfl (by decide) ?_
    refine g_callV (n := 15) (As := [.int _, .int _]) C dX11_wash_12 rfl mw_X11_throwsIf w_1257 (g_recv C mh_o rfl) rfl rfl (room hR rfl) (ct_throwsIf0 ?_)
    refine g_if_ne (n := 18) (t := 50) C dX11_wash_15 rfl (by decide) (fun zc15 => ?_) (fun zc15 => ?_)
    · exact absurd zc15 (by decide)
    refine g_aload_n (n := 19) C dX11_wash_18 rfl rfl ?_
    refine g_iload_n (n := 20) C dX11_wash_19 rfl rfl ?_
    refine g_iconst (n := 21) (v := 0) C dX11_wash_20 rfl (by decide) ?_
    refine g_bipush (n := 23) (v := 100) C dX11_wash_21 rfl (by decide) ?_
    refine g_callS (n := 26) (As := [.int _, .int _, .int _]) C dX11_wash_23 rfl mw_X11_in w_1273 rfl rfl (room hR rfl) (ct_in (fun za23 zb23 => ?_) (fun za23 => ?_) (fun za23 zb23 => ?_))
    · --k23.0
      refine g_if_ne (n := 29) (t := 33) C dX11_wash_26 rfl (by decide) (fun zc26 => ?_) (fun zc26 => ?_)
      rotate_left
      · exact absurd zc26 (by decide)
      refine g_iconst (n := 34) (v := 0) C dX11_wash_33 rfl (by decide) ?_
      refine g_iconst (n := 35) (v := 2) C dX11_wash_34 rfl (by decide) ?_
      refine g_callV (n := 38) (As := [.int _, .int _]) C dX11_wash_35 rfl mw_X11_throwsIf w_1257 (g_recv C mh_o rfl) rfl rfl (room hR rfl) (ct_throwsIf0 ?_)
      refine g_if_ne (n := 41) (t := 50) C dX11_wash_38 rfl (by decide) (fun zc38 => ?_) (fun zc38 => ?_)
      · exact absurd zc38 (by decide)
      refine g_aload_n (n := 42) C dX11_wash_41 rfl rfl ?_
      refine m_get (n := 45) 5 C dX11_wash_42 rfl (by decide) rfl w_1105 rfl ?_
      refine g_iload_n (n := 46) C dX11_wash_45 rfl rfl ?_
      refine m_iald (n := 47) 5 (j) C dX11_wash_46 rfl I (by decide) rfl rfl (by omega) (by decide) rfl ?_
      refine g_if_lt (n := 50) (t := 52) C dX11_wash_47 rfl (by decide) (fun zc47 => ?_) (fun zc47 => ?_)
      · --t47
        refine g_aload_n (n := 53) C dX11_wash_52 rfl rfl ?_
        refine m_get (n := 56) 5 C dX11_wash_53 rfl (by decide) rfl w_1105 rfl ?_
        refine g_iload_n (n := 57) C dX11_wash_56 rfl rfl ?_
        refine g_iload_n (n := 58) C dX11_wash_57 rfl rfl ?_
        refine m_iast (n := 59) 5 (j) C dX11_wash_58 rfl I (by decide) (fun _ => rfl) rfl (by omega) (by decide) ?_
        refine g_iconst (n := 60) (v := 1) C dX11_wash_59 rfl (by decide) ?_
        refine g_zret C dX11_wash_60 (by decide) (by decide) (by rfl) ?_
        first | exact k1 (by assumption) | exact k2 j hj rfl (Or.inl (by assumption)) | exact k2 j hj rfl (Or.inr (by assumption)) | exact k3 j hj rfl (by rintro (q | q) <;> contradiction) (by assumption) | exact k4 j hj rfl (by rintro (q | q) <;> contradiction) (by assumption)
      · --f47
        refine g_iconst (n := 51) (v := 0) C dX11_wash_50 rfl (by decide) ?_
        refine g_zret C dX11_wash_51 (by decide) (by decide) (by rfl) ?_
        first | exact k1 (by assumption) | exact k2 j hj rfl (Or.inl (by assumption)) | exact k2 j hj rfl (Or.inr (by assumption)) | exact k3 j hj rfl (by rintro (q | q) <;> contradiction) (by assumption) | exact k4 j hj rfl (by rintro (q | q) <;> contradiction) (by assumption)
    · --k23.1
      refine g_if_ne (n := 29) (t := 33) C dX11_wash_26 rfl (by decide) (fun zc26 => ?_) (fun zc26 => ?_)
      · exact absurd zc26 (by decide)
      refine g_iconst (n := 30) (v := 1) C dX11_wash_29 rfl (by decide) ?_
      refine g_goto (t := 34) C dX11_wash_30 (by decide) ?_
      refine g_iconst (n := 35) (v := 2) C dX11_wash_34 rfl (by decide) ?_
      refine g_callV (n := 38) (As := [.int _, .int _]) C dX11_wash_35 rfl mw_X11_throwsIf w_1257 (g_recv C mh_o rfl) rfl rfl (room hR rfl) (ct_throwsIf1 ?_)
      refine g_if_ne (n := 41) (t := 50) C dX11_wash_38 rfl (by decide) (fun zc38 => ?_) (fun zc38 => ?_)
      rotate_left
      · exact absurd zc38 (by decide)
      refine g_iconst (n := 51) (v := 0) C dX11_wash_50 rfl (by decide) ?_
      refine g_zret C dX11_wash_51 (by decide) (by decide) (by rfl) ?_
      first | exact k1 (by assumption) | exact k2 j hj rfl (Or.inl (by assumption)) | exact k2 j hj rfl (Or.inr (by assumption)) | exact k3 j hj rfl (by rintro (q | q) <;> contradiction) (by assumption) | exact k4 j hj rfl (by rintro (q | q) <;> contradiction) (by assumption)
    · --k23.2
      refine g_if_ne (n := 29) (t := 33) C dX11_wash_26 rfl (by decide) (fun zc26 => ?_) (fun zc26 => ?_)
      · exact absurd zc26 (by decide)
      refine g_iconst (n := 30) (v := 1) C dX11_wash_29 rfl (by decide) ?_
      refine g_goto (t := 34) C dX11_wash_30 (by decide) ?_
      refine g_iconst (n := 35) (v := 2) C dX11_wash_34 rfl (by decide) ?_
      refine g_callV (n := 38) (As := [.int _, .int _]) C dX11_wash_35 rfl mw_X11_throwsIf w_1257 (g_recv C mh_o rfl) rfl rfl (room hR rfl) (ct_throwsIf1 ?_)
      refine g_if_ne (n := 41) (t := 50) C dX11_wash_38 rfl (by decide) (fun zc38 => ?_) (fun zc38 => ?_)
      rotate_left
      · exact absurd zc38 (by decide)
      refine g_iconst (n := 51) (v := 0) C dX11_wash_50 rfl (by decide) ?_
      refine g_zret C dX11_wash_51 (by decide) (by decide) (by rfl) ?_
      first | exact k1 (by assumption) | exact k2 j hj rfl (Or.inl (by assumption)) | exact k2 j hj rfl (Or.inr (by assumption)) | exact k3 j hj rfl (by rintro (q | q) <;> contradiction) (by assumption) | exact k4 j hj rfl (by rintro (q | q) <;> contradiction) (by assumption)
  · --k8.1
    refine g_iconst (n := 12) (v := 1) C dX11_wash_11 rfl (by decide) ?_
    refine g_callV (n := 15) (As := [.int _, .int _]) C dX11_wash_12 rfl mw_X11_throwsIf w_1257 (g_recv C mh_o rfl) rfl rfl (room hR rfl) (ct_throwsIf1 ?_)
    refine g_if_ne (n := 18) (t := 50) C dX11_wash_15 rfl (by decide) (fun zc15 => ?_) (fun zc15 => ?_)
    rotate_left
    · exact absurd zc15 (by decide)
    refine g_iconst (n := 51) (v := 0) C dX11_wash_50 rfl (by decide) ?_
    refine g_zret C dX11_wash_51 (by decide) (by decide) (by rfl) ?_
    first | exact k1 (by assumption) | exact k2 j hj rfl (Or.inl (by assumption)) | exact k2 j hj rfl (Or.inr (by assumption)) | exact k3 j hj rfl (by rintro (q | q) <;> contradiction) (by assumption) | exact k4 j hj rfl (by rintro (q | q) <;> contradiction) (by assumption)
theorem dX11_fill_0 : decode cX11_fill 0 = .ok (.aload_n 0, 1) := by decide +kernel
theorem dX11_fill_1 : decode cX11_fill 1 = .ok (.iconst 0, 1) := by decide +kernel
theorem dX11_fill_2 : decode cX11_fill 2 = .ok (.putfield 76, 3) := by decide +kernel
theorem dX11_fill_5 : decode cX11_fill 5 = .ok (.aload_n 0, 1) := by decide +kernel
theorem dX11_fill_6 : decode cX11_fill 6 = .ok (.aload_n 0, 1) := by decide +kernel
theorem dX11_fill_7 : decode cX11_fill 7 = .ok (.iload_n 1, 1) := by decide +kernel
theorem dX11_fill_8 : decode cX11_fill 8 = .ok (.invokevirtual 192, 3) := by decide +kernel
theorem dX11_fill_11 : decode cX11_fill 11 = .ok (.iconst 1, 1) := by decide +kernel
theorem dX11_fill_12 : decode cX11_fill 12 = .ok (.invokevirtual 162, 3) := by decide +kernel
theorem dX11_fill_15 : decode cX11_fill 15 = .ok (.ifCond .ne 12, 3) := by decide +kernel
theorem dX11_fill_18 : decode cX11_fill 18 = .ok (.aload_n 0, 1) := by decide +kernel
theorem dX11_fill_19 : decode cX11_fill 19 = .ok (.getfield 23, 3) := by decide +kernel
theorem dX11_fill_22 : decode cX11_fill 22 = .ok (.iload_n 1, 1) := by decide +kernel
theorem dX11_fill_23 : decode cX11_fill 23 = .ok (.iaload, 1) := by decide +kernel
theorem dX11_fill_24 : decode cX11_fill 24 = .ok (.ifCond .lt 5, 3) := by decide +kernel
theorem dX11_fill_27 : decode cX11_fill 27 = .ok (.iconst 0, 1) := by decide +kernel
theorem dX11_fill_28 : decode cX11_fill 28 = .ok (.ireturn, 1) := by decide +kernel
theorem dX11_fill_29 : decode cX11_fill 29 = .ok (.aload_n 0, 1) := by decide +kernel
theorem dX11_fill_30 : decode cX11_fill 30 = .ok (.getfield 23, 3) := by decide +kernel
theorem dX11_fill_33 : decode cX11_fill 33 = .ok (.iload_n 1, 1) := by decide +kernel
theorem dX11_fill_34 : decode cX11_fill 34 = .ok (.aload_n 0, 1) := by decide +kernel
theorem dX11_fill_35 : decode cX11_fill 35 = .ok (.getfield 189, 3) := by decide +kernel
theorem dX11_fill_38 : decode cX11_fill 38 = .ok (.iastore, 1) := by decide +kernel
theorem dX11_fill_39 : decode cX11_fill 39 = .ok (.iconst 1, 1) := by decide +kernel
theorem dX11_fill_40 : decode cX11_fill 40 = .ok (.ireturn, 1) := by decide +kernel
set_option maxHeartbeats 400000 in
set_option maxRecDepth 20000 in
theorem ct_fill {l : Launch} {E : Ev} {P : Value → AH → Prop} {o : Nat} {ad : Nat → Nat} {F : Nat → Int32} {A : Nat → Nat → Int32} {h : AH} (I : mI o ad) {n : Nat} (hn : F 9 = nI n) (hn3 : n ≤ 30) {p : Int32} (k1 : p < 0 ∨ F 9 - 1 < p → P (.int 0) (mh E o ad (upd (upd F 0 0) 0 1) A h)) (k2 : ∀ j, j < n → p = nI j → ¬ A 6 j < 0 → P (.int 0) (mh E o ad (upd F 0 0) A h)) (k3 : ∀ j, j < n → p = nI j → A 6 j < 0 → P (.int 1) (mh E o ad (upd F 0 0) (aset A 6 j (F 1)) h)) : Mt l E yX11_fill cX11_fill 2 (some .boolean) 8 132 0 0 [.ref o, .int p] (mh E o ad F A h) P := by
  refine Mt.of (by decide) (Nat.le_of_ble_eq_true rfl) ?_
  intro K hK hR C
  refine g_aload_n (n := 1) C dX11_fill_0 rfl rfl ?_
  refine g_iconst (n := 2) (v := 0) C dX11_fill_1 rfl (by decide) ?_
  refine m_put (n := 5) 0 C dX11_fill_2 rfl (by decide) w_1100 rfl rfl rfl mfs_0 ?_
  refine g_aload_n (n := 6) C dX11_fill_5 rfl rfl ?_
  refine g_aload_n (n := 7) C dX11_fill_6 rfl rfl ?_
  refine g_iload_n (n := 8) C dX11_fill_7 rfl rfl ?_
  refine g_callV (n := 11) (As := [.int _]) C dX11_fill_8 rfl mw_X11_noPit w_1296 (g_recv C mh_o rfl) rfl rfl (room hR rfl) (ct_noPit (fun za8 zb8 => ?_) (fun za8 => ?_))
  · --k8.0
    obtain ⟨j, hj, rfl⟩ := ix_of za8 zb8 (show upd F 0 0 9 = nI n from hn) (by omega)
    refine g_iconst (n := 12) (v := 1) C dX11_fill_11 rfl (by decide) ?_
    refine g_callV (n := 15) (As := [.int _, .int _]) C dX11_fill_12 rfl mw_X11_throwsIf w_1257 (g_recv C mh_o rfl) rfl rfl (room hR rfl) (ct_throwsIf0 ?_)
    refine g_if_ne (n := 18) (t := 27) C dX11_fill_15 rfl (by decide) (fun zc15 => ?_) (fun zc15 => ?_)
    · exact absurd zc15 (by decide)
    refine g_aload_n (n := 19) C dX11_fill_18 rfl rfl ?_
    refine m_get (n := 22) 6 C dX11_fill_19 rfl (by decide) rfl w_1106 rfl ?_
    refine g_iload_n (n := 23) C dX11_fill_22 rfl rfl ?_
    refine m_iald (n := 24) 6 (j) C dX11_fill_23 rfl I (by decide) rfl rfl (by omega) (by decide) rfl ?_
    refine g_if_lt (n := 27) (t := 29) C dX11_fill_24 rfl (by decide) (fun zc24 => ?_) (fun zc24 => ?_)
    · --t24
      refine g_aload_n (n := 30) C dX11_fill_29 rfl rfl ?_
      refine m_get (n := 33) 6 C dX11_fill_30 rfl (by decide) rfl w_1106 rfl ?_
      refine g_iload_n (n := 34) C dX11_fill_33 rfl rfl ?_
      refine g_aload_n (n := 35) C dX11_fill_34 rfl rfl ?_
      refine m_get (n := 38) 1 C dX11_fill_35 rfl (by decide) rfl w_1101 rfl ?_
      refine m_iast (n := 39) 6 (j) C dX11_fill_38 rfl I (by decide) (fun _ => rfl) rfl (by omega) (by decide) ?_
      refine g_iconst (n := 40) (v := 1) C dX11_fill_39 rfl (by decide) ?_
      refine g_zret C dX11_fill_40 (by decide) (by decide) (by rfl) ?_
      first | exact k1 (by assumption) | exact k2 j hj rfl (by assumption) | exact k3 j hj rfl (by assumption)
    · --f24
      refine g_iconst (n := 28) (v := 0) C dX11_fill_27 rfl (by decide) ?_
      refine g_zret C dX11_fill_28 (by decide) (by decide) (by rfl) ?_
      first | exact k1 (by assumption) | exact k2 j hj rfl (by assumption) | exact k3 j hj rfl (by assumption)
  · --k8.1
    refine g_iconst (n := 12) (v := 1) C dX11_fill_11 rfl (by decide) ?_
    refine g_callV (n := 15) (As := [.int _, .int _]) C dX11_fill_12 rfl mw_X11_throwsIf w_1257 (g_recv C mh_o rfl) rfl rfl (room hR rfl) (ct_throwsIf1 ?_)
    refine g_if_ne (n := 18) (t := 27) C dX11_fill_15 rfl (by decide) (fun zc15 => ?_) (fun zc15 => ?_)
    rotate_left
    · exact absurd zc15 (by decide)
    refine g_iconst (n := 28) (v := 0) C dX11_fill_27 rfl (by decide) ?_
    refine g_zret C dX11_fill_28 (by decide) (by decide) (by rfl) ?_
    first | exact k1 (by assumption) | exact k2 j hj rfl (by assumption) | exact k3 j hj rfl (by assumption)
theorem dX11_days_0 : decode cX11_days 0 = .ok (.aload_n 0, 1) := by decide +kernel
theorem dX11_days_1 : decode cX11_days 1 = .ok (.iconst 0, 1) := by decide +kernel
theorem dX11_days_2 : decode cX11_days 2 = .ok (.putfield 76, 3) := by decide +kernel
theorem dX11_days_5 : decode cX11_days 5 = .ok (.aload_n 0, 1) := by decide +kernel
theorem dX11_days_6 : decode cX11_days 6 = .ok (.iload_n 1, 1) := by decide +kernel
theorem dX11_days_7 : decode cX11_days 7 = .ok (.iconst 0, 1) := by decide +kernel
theorem dX11_days_8 : decode cX11_days 8 = .ok (.sipush 1000, 3) := by decide +kernel
theorem dX11_days_11 : decode cX11_days 11 = .ok (.invokestatic 79, 3) := by decide +kernel
theorem dX11_days_14 : decode cX11_days 14 = .ok (.ifCond .ne 7, 3) := by decide +kernel
theorem dX11_days_17 : decode cX11_days 17 = .ok (.iconst 1, 1) := by decide +kernel
theorem dX11_days_18 : decode cX11_days 18 = .ok (.goto 4, 3) := by decide +kernel
theorem dX11_days_21 : decode cX11_days 21 = .ok (.iconst 0, 1) := by decide +kernel
theorem dX11_days_22 : decode cX11_days 22 = .ok (.iconst 1, 1) := by decide +kernel
theorem dX11_days_23 : decode cX11_days 23 = .ok (.invokevirtual 162, 3) := by decide +kernel
theorem dX11_days_26 : decode cX11_days 26 = .ok (.ifCond .eq 5, 3) := by decide +kernel
theorem dX11_days_29 : decode cX11_days 29 = .ok (.iconst 0, 1) := by decide +kernel
theorem dX11_days_30 : decode cX11_days 30 = .ok (.ireturn, 1) := by decide +kernel
theorem dX11_days_31 : decode cX11_days 31 = .ok (.aload_n 0, 1) := by decide +kernel
theorem dX11_days_32 : decode cX11_days 32 = .ok (.sipush 3000, 3) := by decide +kernel
theorem dX11_days_35 : decode cX11_days 35 = .ok (.aload_n 0, 1) := by decide +kernel
theorem dX11_days_36 : decode cX11_days 36 = .ok (.getfield 189, 3) := by decide +kernel
theorem dX11_days_39 : decode cX11_days 39 = .ok (.iload_n 1, 1) := by decide +kernel
theorem dX11_days_40 : decode cX11_days 40 = .ok (.iadd, 1) := by decide +kernel
theorem dX11_days_41 : decode cX11_days 41 = .ok (.invokestatic 195, 3) := by decide +kernel
theorem dX11_days_44 : decode cX11_days 44 = .ok (.putfield 189, 3) := by decide +kernel
theorem dX11_days_47 : decode cX11_days 47 = .ok (.aload_n 0, 1) := by decide +kernel
theorem dX11_days_48 : decode cX11_days 48 = .ok (.getfield 189, 3) := by decide +kernel
theorem dX11_days_51 : decode cX11_days 51 = .ok (.ireturn, 1) := by decide +kernel
set_option maxHeartbeats 400000 in
set_option maxRecDepth 20000 in
theorem ct_days {l : Launch} {E : Ev} {P : Value → AH → Prop} {o : Nat} {ad : Nat → Nat} {F : Nat → Int32} {A : Nat → Nat → Int32} {h : AH} {p : Int32} (k1 : p < 0 ∨ 1000 < p → P (.int 0) (mh E o ad (upd (upd F 0 0) 0 1) A h)) (k2 : ¬ (p < 0 ∨ 1000 < p) → P (.int (imin 3000 (F 1 + p))) (mh E o ad (upd (upd F 0 0) 1 (imin 3000 (F 1 + p))) A h)) : Mt l E yX11_days cX11_days 2 (some .int) 7 111 0 0 [.ref o, .int p] (mh E o ad F A h) P := by
  refine Mt.of (by decide) (Nat.le_of_ble_eq_true rfl) ?_
  intro K hK hR C
  refine g_aload_n (n := 1) C dX11_days_0 rfl rfl ?_
  refine g_iconst (n := 2) (v := 0) C dX11_days_1 rfl (by decide) ?_
  refine m_put (n := 5) 0 C dX11_days_2 rfl (by decide) w_1100 rfl rfl rfl mfs_0 ?_
  refine g_aload_n (n := 6) C dX11_days_5 rfl rfl ?_
  refine g_iload_n (n := 7) C dX11_days_6 rfl rfl ?_
  refine g_iconst (n := 8) (v := 0) C dX11_days_7 rfl (by decide) ?_
  refine g_sipush (n := 11) (v := 1000) C dX11_days_8 rfl (by decide) ?_
  refine g_callS (n := 14) (As := [.int _, .int _, .int _]) C dX11_days_11 rfl mw_X11_in w_1273 rfl rfl (room hR rfl) (ct_in (fun za11 zb11 => ?_) (fun za11 => ?_) (fun za11 zb11 => ?_))
  · --k11.0
    refine g_if_ne (n := 17) (t := 21) C dX11_days_14 rfl (by decide) (fun zc14 => ?_) (fun zc14 => ?_)
    rotate_left
    · exact absurd zc14 (by decide)
    refine g_iconst (n := 22) (v := 0) C dX11_days_21 rfl (by decide) ?_
    refine g_iconst (n := 23) (v := 1) C dX11_days_22 rfl (by decide) ?_
    refine g_callV (n := 26) (As := [.int _, .int _]) C dX11_days_23 rfl mw_X11_throwsIf w_1257 (g_recv C mh_o rfl) rfl rfl (room hR rfl) (ct_throwsIf0 ?_)
    refine g_if_eq (n := 29) (t := 31) C dX11_days_26 rfl (by decide) (fun zc26 => ?_) (fun zc26 => ?_)
    rotate_left
    · exact absurd zc26 (by decide)
    refine g_aload_n (n := 32) C dX11_days_31 rfl rfl ?_
    refine g_sipush (n := 35) (v := 3000) C dX11_days_32 rfl (by decide) ?_
    refine g_aload_n (n := 36) C dX11_days_35 rfl rfl ?_
    refine m_get (n := 39) 1 C dX11_days_36 rfl (by decide) rfl w_1101 rfl ?_
    refine g_iload_n (n := 40) C dX11_days_39 rfl rfl ?_
    refine g_iadd (n := 41) C dX11_days_40 rfl ?_
    refine g_min (n := 44) C dX11_days_41 rfl mwM_min w_1308 (roomM hR rfl) ?_
    refine m_put (n := 47) 1 C dX11_days_44 rfl (by decide) w_1101 rfl rfl rfl mfs_1 ?_
    refine g_aload_n (n := 48) C dX11_days_47 rfl rfl ?_
    refine m_get (n := 51) 1 C dX11_days_48 rfl (by decide) rfl w_1101 rfl ?_
    refine g_iret C dX11_days_51 (by decide) (by decide) ?_
    first | exact k1 (Or.inl (by assumption)) | exact k1 (Or.inr (by assumption)) | exact k2 (by rintro (q | q) <;> contradiction)
  · --k11.1
    refine g_if_ne (n := 17) (t := 21) C dX11_days_14 rfl (by decide) (fun zc14 => ?_) (fun zc14 => ?_)
    · exact absurd zc14 (by decide)
    refine g_iconst (n := 18) (v := 1) C dX11_days_17 rfl (by decide) ?_
    refine g_goto (t := 22) C dX11_days_18 (by decide) ?_
    refine g_iconst (n := 23) (v := 1) C dX11_days_22 rfl (by decide) ?_
    refine g_callV (n := 26) (As := [.int _, .int _]) C dX11_days_23 rfl mw_X11_throwsIf w_1257 (g_recv C mh_o rfl) rfl rfl (room hR rfl) (ct_throwsIf1 ?_)
    refine g_if_eq (n := 29) (t := 31) C dX11_days_26 rfl (by decide) (fun zc26 => ?_) (fun zc26 => ?_)
    · exact absurd zc26 (by decide)
    refine g_iconst (n := 30) (v := 0) C dX11_days_29 rfl (by decide) ?_
    refine g_iret C dX11_days_30 (by decide) (by decide) ?_
    first | exact k1 (Or.inl (by assumption)) | exact k1 (Or.inr (by assumption)) | exact k2 (by rintro (q | q) <;> contradiction)
  · --k11.2
    refine g_if_ne (n := 17) (t := 21) C dX11_days_14 rfl (by decide) (fun zc14 => ?_) (fun zc14 => ?_)
    · exact absurd zc14 (by decide)
    refine g_iconst (n := 18) (v := 1) C dX11_days_17 rfl (by decide) ?_
    refine g_goto (t := 22) C dX11_days_18 (by decide) ?_
    refine g_iconst (n := 23) (v := 1) C dX11_days_22 rfl (by decide) ?_
    refine g_callV (n := 26) (As := [.int _, .int _]) C dX11_days_23 rfl mw_X11_throwsIf w_1257 (g_recv C mh_o rfl) rfl rfl (room hR rfl) (ct_throwsIf1 ?_)
    refine g_if_eq (n := 29) (t := 31) C dX11_days_26 rfl (by decide) (fun zc26 => ?_) (fun zc26 => ?_)
    · exact absurd zc26 (by decide)
    refine g_iconst (n := 30) (v := 0) C dX11_days_29 rfl (by decide) ?_
    refine g_iret C dX11_days_30 (by decide) (by decide) ?_
    first | exact k1 (Or.inl (by assumption)) | exact k1 (Or.inr (by assumption)) | exact k2 (by rintro (q | q) <;> contradiction)
theorem dX11_span_0 : decode cX11_span 0 = .ok (.aload_n 0, 1) := by decide +kernel
theorem dX11_span_1 : decode cX11_span 1 = .ok (.iconst 0, 1) := by decide +kernel
theorem dX11_span_2 : decode cX11_span 2 = .ok (.putfield 76, 3) := by decide +kernel
theorem dX11_span_5 : decode cX11_span 5 = .ok (.aload_n 0, 1) := by decide +kernel
theorem dX11_span_6 : decode cX11_span 6 = .ok (.iload_n 1, 1) := by decide +kernel
theorem dX11_span_7 : decode cX11_span 7 = .ok (.invokestatic 182, 3) := by decide +kernel
theorem dX11_span_10 : decode cX11_span 10 = .ok (.iconst 1, 1) := by decide +kernel
theorem dX11_span_11 : decode cX11_span 11 = .ok (.invokevirtual 162, 3) := by decide +kernel
theorem dX11_span_14 : decode cX11_span 14 = .ok (.ifCond .eq 5, 3) := by decide +kernel
theorem dX11_span_17 : decode cX11_span 17 = .ok (.iconst 0, 1) := by decide +kernel
theorem dX11_span_18 : decode cX11_span 18 = .ok (.ireturn, 1) := by decide +kernel
theorem dX11_span_19 : decode cX11_span 19 = .ok (.aload_n 0, 1) := by decide +kernel
theorem dX11_span_20 : decode cX11_span 20 = .ok (.iload_n 1, 1) := by decide +kernel
theorem dX11_span_21 : decode cX11_span 21 = .ok (.invokevirtual 198, 3) := by decide +kernel
theorem dX11_span_24 : decode cX11_span 24 = .ok (.istore_n 3, 1) := by decide +kernel
theorem dX11_span_25 : decode cX11_span 25 = .ok (.aload_n 0, 1) := by decide +kernel
theorem dX11_span_26 : decode cX11_span 26 = .ok (.iload_n 1, 1) := by decide +kernel
theorem dX11_span_27 : decode cX11_span 27 = .ok (.invokevirtual 201, 3) := by decide +kernel
theorem dX11_span_30 : decode cX11_span 30 = .ok (.istore 4, 2) := by decide +kernel
theorem dX11_span_32 : decode cX11_span 32 = .ok (.iload_n 3, 1) := by decide +kernel
theorem dX11_span_33 : decode cX11_span 33 = .ok (.iload 4, 2) := by decide +kernel
theorem dX11_span_35 : decode cX11_span 35 = .ok (.if_icmp .le 7, 3) := by decide +kernel
theorem dX11_span_38 : decode cX11_span 38 = .ok (.iconst (-1), 1) := by decide +kernel
theorem dX11_span_39 : decode cX11_span 39 = .ok (.goto 13, 3) := by decide +kernel
theorem dX11_span_42 : decode cX11_span 42 = .ok (.iload_n 2, 1) := by decide +kernel
theorem dX11_span_43 : decode cX11_span 43 = .ok (.ifCond .eq 8, 3) := by decide +kernel
theorem dX11_span_46 : decode cX11_span 46 = .ok (.iload 4, 2) := by decide +kernel
theorem dX11_span_48 : decode cX11_span 48 = .ok (.goto 4, 3) := by decide +kernel
theorem dX11_span_51 : decode cX11_span 51 = .ok (.iload_n 3, 1) := by decide +kernel
theorem dX11_span_52 : decode cX11_span 52 = .ok (.ireturn, 1) := by decide +kernel
set_option maxHeartbeats 400000 in
set_option maxRecDepth 20000 in
theorem ct_span {l : Launch} {E : Ev} {P : Value → AH → Prop} {o : Nat} {ad : Nat → Nat} {F : Nat → Int32} {A : Nat → Nat → Int32} {h : AH} (I : mI o ad) {n : Nat} (hn : F 9 = nI n) (hn3 : n ≤ 30) {s m : Int32} (k1 : s < 0 ∨ 95 < s → P (.int 0) (mh E o ad (upd (upd F 0 0) 0 1) A h)) (k2 : ¬ (s < 0 ∨ 95 < s) → rhigh (F 2) A s n < rlow (F 2) A s n → P (.int (-1)) (mh E o ad (upd F 0 0) A h)) (k3 : ¬ (s < 0 ∨ 95 < s) → ¬ rhigh (F 2) A s n < rlow (F 2) A s n → ¬ m = 0 → P (.int (rhigh (F 2) A s n)) (mh E o ad (upd F 0 0) A h)) (k4 : ¬ (s < 0 ∨ 95 < s) → ¬ rhigh (F 2) A s n < rlow (F 2) A s n → m = 0 → P (.int (rlow (F 2) A s n)) (mh E o ad (upd F 0 0) A h)) : Mt l E yX11_span cX11_span 5 (some .int) 8 132 0 0 [.ref o, .int s, .int m] (mh E o ad F A h) P := by
  refine Mt.of (by decide) (Nat.le_of_ble_eq_true rfl) ?_
  intro K hK hR C
  refine g_aload_n (n := 1) C dX11_span_0 rfl rfl ?_
  refine g_iconst (n := 2) (v := 0) C dX11_span_1 rfl (by decide) ?_
  refine m_put (n := 5) 0 C dX11_span_2 rfl (by decide) w_1100 rfl rfl rfl mfs_0 ?_
  refine g_aload_n (n := 6) C dX11_span_5 rfl rfl ?_
  refine g_iload_n (n := 7) C dX11_span_6 rfl rfl ?_
  refine g_callS (n := 10) (As := [.int _]) C dX11_span_7 rfl mw_X11_noSquare w_1280 rfl rfl (room hR rfl) (ct_noSquare (fun za7 zb7 => ?_) (fun za7 => ?_))
  · --k7.0
    refine g_iconst (n := 11) (v := 1) C dX11_span_10 rfl (by decide) ?_
    refine g_callV (n := 14) (As := [.int _, .int _]) C dX11_span_11 rfl mw_X11_throwsIf w_1257 (g_recv C mh_o rfl) rfl rfl (room hR rfl) (ct_throwsIf0 ?_)
    refine g_if_eq (n := 17) (t := 19) C dX11_span_14 rfl (by decide) (fun zc14 => ?_) (fun zc14 => ?_)
    rotate_left
    · exact absurd zc14 (by decide)
    refine g_aload_n (n := 20) C dX11_span_19 rfl rfl ?_
    refine g_iload_n (n := 21) C dX11_span_20 rfl rfl ?_
    refine g_callV (n := 24) (As := [.int _]) C dX11_span_21 rfl mw_X11_low w_1313 (g_recv C mh_o rfl) rfl rfl (room hR rfl) (ct_low I hn hn3 ?_)
    refine g_istore_n (n := 25) C dX11_span_24 rfl (by decide) ?_
    refine g_aload_n (n := 26) C dX11_span_25 rfl rfl ?_
    refine g_iload_n (n := 27) C dX11_span_26 rfl rfl ?_
    refine g_callV (n := 30) (As := [.int _]) C dX11_span_27 rfl mw_X11_high w_1317 (g_recv C mh_o rfl) rfl rfl (room hR rfl) (ct_high I hn hn3 ?_)
    refine g_istore (n := 32) C dX11_span_30 rfl (by decide) ?_
    refine g_iload_n (n := 33) C dX11_span_32 rfl rfl ?_
    refine g_iload (n := 35) C dX11_span_33 rfl rfl ?_
    refine g_icmp_le (n := 38) (t := 42) C dX11_span_35 rfl (by decide) (fun zc35 => ?_) (fun zc35 => ?_)
    · --t35
      refine g_iload_n (n := 43) C dX11_span_42 rfl rfl ?_
      refine g_if_eq (n := 46) (t := 51) C dX11_span_43 rfl (by decide) (fun zc43 => ?_) (fun zc43 => ?_)
      · --t43
        refine g_iload_n (n := 52) C dX11_span_51 rfl rfl ?_
        refine g_iret C dX11_span_52 (by decide) (by decide) ?_
        first | exact k1 (by assumption) | exact k2 (by rintro (q | q) <;> contradiction) (Int32.not_le.mp (by assumption)) | exact k3 (by rintro (q | q) <;> contradiction) (Int32.not_lt.mpr (by assumption)) (by assumption) | exact k4 (by rintro (q | q) <;> contradiction) (Int32.not_lt.mpr (by assumption)) (by assumption)
      · --f43
        refine g_iload (n := 48) C dX11_span_46 rfl rfl ?_
        refine g_goto (t := 52) C dX11_span_48 (by decide) ?_
        refine g_iret C dX11_span_52 (by decide) (by decide) ?_
        first | exact k1 (by assumption) | exact k2 (by rintro (q | q) <;> contradiction) (Int32.not_le.mp (by assumption)) | exact k3 (by rintro (q | q) <;> contradiction) (Int32.not_lt.mpr (by assumption)) (by assumption) | exact k4 (by rintro (q | q) <;> contradiction) (Int32.not_lt.mpr (by assumption)) (by assumption)
    · --f35
      refine g_iconst (n := 39) (v := (-1)) C dX11_span_38 rfl (by decide) ?_
      refine g_goto (t := 52) C dX11_span_39 (by decide) ?_
      refine g_iret C dX11_span_52 (by decide) (by decide) ?_
      first | exact k1 (by assumption) | exact k2 (by rintro (q | q) <;> contradiction) (Int32.not_le.mp (by assumption)) | exact k3 (by rintro (q | q) <;> contradiction) (Int32.not_lt.mpr (by assumption)) (by assumption) | exact k4 (by rintro (q | q) <;> contradiction) (Int32.not_lt.mpr (by assumption)) (by assumption)
  · --k7.1
    refine g_iconst (n := 11) (v := 1) C dX11_span_10 rfl (by decide) ?_
    refine g_callV (n := 14) (As := [.int _, .int _]) C dX11_span_11 rfl mw_X11_throwsIf w_1257 (g_recv C mh_o rfl) rfl rfl (room hR rfl) (ct_throwsIf1 ?_)
    refine g_if_eq (n := 17) (t := 19) C dX11_span_14 rfl (by decide) (fun zc14 => ?_) (fun zc14 => ?_)
    · exact absurd zc14 (by decide)
    refine g_iconst (n := 18) (v := 0) C dX11_span_17 rfl (by decide) ?_
    refine g_iret C dX11_span_18 (by decide) (by decide) ?_
    first | exact k1 (by assumption) | exact k2 (by rintro (q | q) <;> contradiction) (Int32.not_le.mp (by assumption)) | exact k3 (by rintro (q | q) <;> contradiction) (Int32.not_lt.mpr (by assumption)) (by assumption) | exact k4 (by rintro (q | q) <;> contradiction) (Int32.not_lt.mpr (by assumption)) (by assumption)
