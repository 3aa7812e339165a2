/-- byte k of the five numbers v -/
def fby (v : Nat → Int32) (k : Nat) : Int32 := ((v (k / 4)) >>> ((24 - 8 * (nI k - nI k / 4 * 4)) &&& 31)).toInt8.toInt32.toInt8.toInt32
/-- p bytes of v are on the tape, from t on -/
def ft (A : Nat → Nat → Int32) (t p : Nat) : Nat → Nat → Int32 := fun a b => if a = 14 ∧ t ≤ b ∧ b < t + p then fby (A 20) (b - t) else A a b
theorem ft_0 (A : Nat → Nat → Int32) (t : Nat) : ft A t 0 = A := by
  funext a b
  unfold ft
  rw [if_neg (fun q => by omega)]
theorem ft_ne (A : Nat → Nat → Int32) (t p : Nat) {a : Nat} (h : a ≠ 14) : ft A t p a = A a := by
  funext b
  unfold ft
  rw [if_neg (fun q => h q.1)]
theorem ft_s (A : Nat → Nat → Int32) (t p : Nat) : aset (ft A t p) 14 (t + p) (fby (A 20) p) = ft A t (p + 1) := by
  funext a b
  unfold aset ft
  by_cases h1 : a = 14
  · rw [if_pos h1]
    by_cases h2 : b = t + p
    · rw [if_pos h2, if_pos ⟨h1, by omega, by omega⟩, show b - t = p from by omega]
    · rw [if_neg h2]
      by_cases h3 : t ≤ b ∧ b < t + p
      · rw [if_pos ⟨h1, h3⟩, if_pos ⟨h1, h3.1, by omega⟩]
      · rw [if_neg (fun q => h3 q.2), if_neg (fun q => h3 ⟨q.2.1, by omega⟩)]
  · rw [if_neg h1, if_neg (fun q => h1 q.1), if_neg (fun q => h1 q.1)]
theorem fidx : ∀ p, p < 20 → nI p / 4 = nI (p / 4) ∧ p / 4 < 5 := by decide +kernel
abbrev rfv (A : Nat → Nat → Int32) (a b c d e : Int32) : Nat → Nat → Int32 := aset (aset (aset (aset (aset A 20 0 a) 20 1 b) 20 2 c) 20 3 d) 20 4 e
abbrev rdl (A : Nat → Nat → Int32) : Nat → Nat → Int32 := aset (aset (aset A 12 0 (A 10 0)) 12 1 (A 10 1)) 12 2 (A 10 2)
abbrev rlw (A : Nat → Nat → Int32) : Nat → Nat → Int32 := aset (aset (aset A 10 0 (A 12 0)) 10 1 (A 12 1)) 10 2 (A 12 2)
abbrev rd0 (A : Nat → Nat → Int32) : Nat → Nat → Int32 := aset (aset (aset (aset (aset (aset (aset A 12 0 0) 12 1 0) 12 2 0) 12 3 0) 12 4 0) 12 5 0) 12 6 0
abbrev rag (A : Nat → Nat → Int32) : Nat → Nat → Int32 := aset (aset (aset (aset (aset (aset (aset A 11 0 (A 12 0)) 11 1 (A 12 1)) 11 2 (A 12 2)) 11 3 (A 12 3)) 11 4 (A 12 4)) 11 5 (A 12 5)) 11 6 (A 12 6)
noncomputable def rlawS (A : Nat → Nat → Int32) (e : Nat) : RS := rallS rtermS (fun _ => True) e (e + 1) (rdl A) 0 1
noncomputable def ragrS (A : Nat → Nat → Int32) (e : Nat) : RS := rallS rpartS rfin e (e + 1) (rd0 A) 0 1
theorem dX11_feed_0 : decode cX11_feed 0 = .ok (.aload_n 0, 1) := by decide +kernel
theorem dX11_feed_1 : decode cX11_feed 1 = .ok (.iconst 0, 1) := by decide +kernel
theorem dX11_feed_2 : decode cX11_feed 2 = .ok (.putfield 76, 3) := by decide +kernel
theorem dX11_feed_5 : decode cX11_feed 5 = .ok (.aload_n 0, 1) := by decide +kernel
theorem dX11_feed_6 : decode cX11_feed 6 = .ok (.getfield 89, 3) := by decide +kernel
theorem dX11_feed_9 : decode cX11_feed 9 = .ok (.bipush 20, 2) := by decide +kernel
theorem dX11_feed_11 : decode cX11_feed 11 = .ok (.iadd, 1) := by decide +kernel
theorem dX11_feed_12 : decode cX11_feed 12 = .ok (.sipush 400, 3) := by decide +kernel
theorem dX11_feed_15 : decode cX11_feed 15 = .ok (.if_icmp .le 5, 3) := by decide +kernel
theorem dX11_feed_18 : decode cX11_feed 18 = .ok (.iconst (-1), 1) := by decide +kernel
theorem dX11_feed_19 : decode cX11_feed 19 = .ok (.ireturn, 1) := by decide +kernel
theorem dX11_feed_20 : decode cX11_feed 20 = .ok (.aload_n 0, 1) := by decide +kernel
theorem dX11_feed_21 : decode cX11_feed 21 = .ok (.getfield 48, 3) := by decide +kernel
theorem dX11_feed_24 : decode cX11_feed 24 = .ok (.iconst 0, 1) := by decide +kernel
theorem dX11_feed_25 : decode cX11_feed 25 = .ok (.iload_n 1, 1) := by decide +kernel
theorem dX11_feed_26 : decode cX11_feed 26 = .ok (.iastore, 1) := by decide +kernel
theorem dX11_feed_27 : decode cX11_feed 27 = .ok (.aload_n 0, 1) := by decide +kernel
theorem dX11_feed_28 : decode cX11_feed 28 = .ok (.getfield 48, 3) := by decide +kernel
theorem dX11_feed_31 : decode cX11_feed 31 = .ok (.iconst 1, 1) := by decide +kernel
theorem dX11_feed_32 : decode cX11_feed 32 = .ok (.iload_n 2, 1) := by decide +kernel
theorem dX11_feed_33 : decode cX11_feed 33 = .ok (.iastore, 1) := by decide +kernel
theorem dX11_feed_34 : decode cX11_feed 34 = .ok (.aload_n 0, 1) := by decide +kernel
theorem dX11_feed_35 : decode cX11_feed 35 = .ok (.getfield 48, 3) := by decide +kernel
theorem dX11_feed_38 : decode cX11_feed 38 = .ok (.iconst 2, 1) := by decide +kernel
theorem dX11_feed_39 : decode cX11_feed 39 = .ok (.iload_n 3, 1) := by decide +kernel
theorem dX11_feed_40 : decode cX11_feed 40 = .ok (.iastore, 1) := by decide +kernel
theorem dX11_feed_41 : decode cX11_feed 41 = .ok (.aload_n 0, 1) := by decide +kernel
theorem dX11_feed_42 : decode cX11_feed 42 = .ok (.getfield 48, 3) := by decide +kernel
theorem dX11_feed_45 : decode cX11_feed 45 = .ok (.iconst 3, 1) := by decide +kernel
theorem dX11_feed_46 : decode cX11_feed 46 = .ok (.iload 4, 2) := by decide +kernel
theorem dX11_feed_48 : decode cX11_feed 48 = .ok (.iastore, 1) := by decide +kernel
theorem dX11_feed_49 : decode cX11_feed 49 = .ok (.aload_n 0, 1) := by decide +kernel
theorem dX11_feed_50 : decode cX11_feed 50 = .ok (.getfield 48, 3) := by decide +kernel
theorem dX11_feed_53 : decode cX11_feed 53 = .ok (.iconst 4, 1) := by decide +kernel
theorem dX11_feed_54 : decode cX11_feed 54 = .ok (.iload 5, 2) := by decide +kernel
theorem dX11_feed_56 : decode cX11_feed 56 = .ok (.iastore, 1) := by decide +kernel
theorem dX11_feed_57 : decode cX11_feed 57 = .ok (.iconst 0, 1) := by decide +kernel
theorem dX11_feed_58 : decode cX11_feed 58 = .ok (.istore 6, 2) := by decide +kernel
theorem dX11_feed_60 : decode cX11_feed 60 = .ok (.iload 6, 2) := by decide +kernel
theorem dX11_feed_62 : decode cX11_feed 62 = .ok (.bipush 20, 2) := by decide +kernel
theorem dX11_feed_64 : decode cX11_feed 64 = .ok (.if_icmp .ge 42, 3) := by decide +kernel
theorem dX11_feed_67 : decode cX11_feed 67 = .ok (.aload_n 0, 1) := by decide +kernel
theorem dX11_feed_68 : decode cX11_feed 68 = .ok (.getfield 41, 3) := by decide +kernel
theorem dX11_feed_71 : decode cX11_feed 71 = .ok (.aload_n 0, 1) := by decide +kernel
theorem dX11_feed_72 : decode cX11_feed 72 = .ok (.getfield 89, 3) := by decide +kernel
theorem dX11_feed_75 : decode cX11_feed 75 = .ok (.iload 6, 2) := by decide +kernel
theorem dX11_feed_77 : decode cX11_feed 77 = .ok (.iadd, 1) := by decide +kernel
theorem dX11_feed_78 : decode cX11_feed 78 = .ok (.aload_n 0, 1) := by decide +kernel
theorem dX11_feed_79 : decode cX11_feed 79 = .ok (.getfield 48, 3) := by decide +kernel
theorem dX11_feed_82 : decode cX11_feed 82 = .ok (.iload 6, 2) := by decide +kernel
theorem dX11_feed_84 : decode cX11_feed 84 = .ok (.iconst 4, 1) := by decide +kernel
theorem dX11_feed_85 : decode cX11_feed 85 = .ok (.idiv, 1) := by decide +kernel
theorem dX11_feed_86 : decode cX11_feed 86 = .ok (.iaload, 1) := by decide +kernel
theorem dX11_feed_87 : decode cX11_feed 87 = .ok (.bipush 24, 2) := by decide +kernel
theorem dX11_feed_89 : decode cX11_feed 89 = .ok (.bipush 8, 2) := by decide +kernel
theorem dX11_feed_91 : decode cX11_feed 91 = .ok (.iload 6, 2) := by decide +kernel
theorem dX11_feed_93 : decode cX11_feed 93 = .ok (.iconst 4, 1) := by decide +kernel
theorem dX11_feed_94 : decode cX11_feed 94 = .ok (.irem, 1) := by decide +kernel
theorem dX11_feed_95 : decode cX11_feed 95 = .ok (.imul, 1) := by decide +kernel
theorem dX11_feed_96 : decode cX11_feed 96 = .ok (.isub, 1) := by decide +kernel
theorem dX11_feed_97 : decode cX11_feed 97 = .ok (.ishr, 1) := by decide +kernel
theorem dX11_feed_98 : decode cX11_feed 98 = .ok (.i2b, 1) := by decide +kernel
theorem dX11_feed_99 : decode cX11_feed 99 = .ok (.bastore, 1) := by decide +kernel
theorem dX11_feed_100 : decode cX11_feed 100 = .ok (.iinc 6 1, 3) := by decide +kernel
theorem dX11_feed_103 : decode cX11_feed 103 = .ok (.goto (-43), 3) := by decide +kernel
theorem dX11_feed_106 : decode cX11_feed 106 = .ok (.aload_n 0, 1) := by decide +kernel
theorem dX11_feed_107 : decode cX11_feed 107 = .ok (.dup, 1) := by decide +kernel
theorem dX11_feed_108 : decode cX11_feed 108 = .ok (.getfield 89, 3) := by decide +kernel
theorem dX11_feed_111 : decode cX11_feed 111 = .ok (.bipush 20, 2) := by decide +kernel
theorem dX11_feed_113 : decode cX11_feed 113 = .ok (.iadd, 1) := by decide +kernel
theorem dX11_feed_114 : decode cX11_feed 114 = .ok (.putfield 89, 3) := by decide +kernel
theorem dX11_feed_117 : decode cX11_feed 117 = .ok (.aload_n 0, 1) := by decide +kernel
theorem dX11_feed_118 : decode cX11_feed 118 = .ok (.getfield 89, 3) := by decide +kernel
theorem dX11_feed_121 : decode cX11_feed 121 = .ok (.ireturn, 1) := by decide +kernel
set_option maxHeartbeats 1000000 in
set_option maxRecDepth 20000 in
theorem ct_feed {l : Launch} {E : Ev} {P : Value → AH → Prop} {o : Nat} {ad : Nat → Nat} {F : Nat → Int32} {A : Nat → Nat → Int32} {h : AH} (I : mI o ad) {t : Nat} (ht : F 15 = nI t) (ht4 : t ≤ 400) {x0 x1 x2 x3 x4 : Int32} (k1 : 380 < t → P (.int (-1)) (mh E o ad (upd F 0 0) A h)) (k2 : t + 20 ≤ 400 → P (.int (F 15 + 20)) (mh E o ad (upd (upd F 0 0) 15 (F 15 + 20)) (ft (rfv A x0 x1 x2 x3 x4) t 20) h)) : Mt l E yX11_feed cX11_feed 7 (some .int) 2 47 0 0 [.ref o, .int x0, .int x1, .int x2, .int x3, .int x4] (mh E o ad F A h) P := by
  refine Mt.of (by decide) (Nat.le_of_ble_eq_true rfl) ?_
  intro K hK hR C
  refine g_aload_n (n := 1) C dX11_feed_0 rfl rfl ?_
  refine g_iconst (n := 2) (v := 0) C dX11_feed_1 rfl (by decide) ?_
  refine m_put (n := 5) 0 C dX11_feed_2 rfl (by decide) w_1100 rfl rfl rfl mfs_0 ?_
  refine g_aload_n (n := 6) C dX11_feed_5 rfl rfl ?_
  refine m_get (n := 9) 15 C dX11_feed_6 rfl (by decide) rfl w_1115 rfl ?_
  refine g_bipush (n := 11) (v := 20) C dX11_feed_9 rfl (by decide) ?_
  refine g_iadd (n := 12) C dX11_feed_11 rfl ?_
  refine g_sipush (n := 15) (v := 400) C dX11_feed_12 rfl (by decide) ?_
  refine g_icmp_le (n := 18) (t := 20) C dX11_feed_15 rfl (by decide) (fun zc15 => ?_) (fun zc15 => ?_)
  · --t15
    have h20 : t + 20 ≤ 400 := by
      have e9 : upd F 0 0 15 + 20 = nI (t + 20) := by rw [show upd F 0 0 15 = nI t from ht]; exact nI_add t 20
      rw [e9] at zc15
      exact (nI_leI (a := t + 20) (b := 400) (by omega) (by decide)).mp zc15
    refine g_aload_n (n := 21) C dX11_feed_20 rfl rfl ?_
    refine m_get (n := 24) 20 C dX11_feed_21 rfl (by decide) rfl w_1120 rfl ?_
    refine g_iconst (n := 25) (v := 0) C dX11_feed_24 rfl (by decide) ?_
    refine g_iload_n (n := 26) C dX11_feed_25 rfl rfl ?_
    refine m_iast (n := 27) 20 (0) C dX11_feed_26 rfl I (by decide) (fun _ => rfl) rfl (by decide) (by decide) ?_
    refine g_aload_n (n := 28) C dX11_feed_27 rfl rfl ?_
    refine m_get (n := 31) 20 C dX11_feed_28 rfl (by decide) rfl w_1120 rfl ?_
    refine g_iconst (n := 32) (v := 1) C dX11_feed_31 rfl (by decide) ?_
    refine g_iload_n (n := 33) C dX11_feed_32 rfl rfl ?_
    refine m_iast (n := 34) 20 (1) C dX11_feed_33 rfl I (by decide) (fun _ => rfl) rfl (by decide) (by decide) ?_
    refine g_aload_n (n := 35) C dX11_feed_34 rfl rfl ?_
    refine m_get (n := 38) 20 C dX11_feed_35 rfl (by decide) rfl w_1120 rfl ?_
    refine g_iconst (n := 39) (v := 2) C dX11_feed_38 rfl (by decide) ?_
    refine g_iload_n (n := 40) C dX11_feed_39 rfl rfl ?_
    refine m_iast (n := 41) 20 (2) C dX11_feed_40 rfl I (by decide) (fun _ => rfl) rfl (by decide) (by decide) ?_
    refine g_aload_n (n := 42) C dX11_feed_41 rfl rfl ?_
    refine m_get (n := 45) 20 C dX11_feed_42 rfl (by decide) rfl w_1120 rfl ?_
    refine g_iconst (n := 46) (v := 3) C dX11_feed_45 rfl (by decide) ?_
    refine g_iload (n := 48) C dX11_feed_46 rfl rfl ?_
    refine m_iast (n := 49) 20 (3) C dX11_feed_48 rfl I (by decide) (fun _ => rfl) rfl (by decide) (by decide) ?_
    refine g_aload_n (n := 50) C dX11_feed_49 rfl rfl ?_
    refine m_get (n := 53) 20 C dX11_feed_50 rfl (by decide) rfl w_1120 rfl ?_
    refine g_iconst (n := 54) (v := 4) C dX11_feed_53 rfl (by decide) ?_
    refine g_iload (n := 56) C dX11_feed_54 rfl rfl ?_
    refine m_iast (n := 57) 20 (4) C dX11_feed_56 rfl I (by decide) (fun _ => rfl) rfl (by decide) (by decide) ?_
    refine g_iconst (n := 58) (v := 0) C dX11_feed_57 rfl (by decide) ?_
    refine g_istore (n := 60) C dX11_feed_58 rfl (by decide) ?_
    have lp : ∀ p : Nat, p ≤ 20 → ∀ (B : Nat → Nat → Int32) (y : Int32), B = ft (rfv A x0 x1 x2 x3 x4) t p → y = nI p → G K E 7 (QM K E (some .int) 0 0 P) 0 0 60 [(0, .ref o), (6, .int y)] [] (mh E o ad (upd F 0 0) B h) := by
      refine loopN (fun p => ∀ (B : Nat → Nat → Int32) (y : Int32), B = ft (rfv A x0 x1 x2 x3 x4) t p → y = nI p → G K E 7 (QM K E (some .int) 0 0 P) 0 0 60 [(0, .ref o), (6, .int y)] [] (mh E o ad (upd F 0 0) B h)) (20) ?_
      intro p hlep ihp B y eB ey
      subst ey
      refine g_iload (n := 62) C dX11_feed_60 rfl rfl ?_
      refine g_bipush (n := 64) (v := 20) C dX11_feed_62 rfl (by decide) ?_
      refine g_icmp_ge (n := 67) (t := 106) C dX11_feed_64 rfl (by decide) (fun zc64 => ?_) (fun zc64 => ?_)
      · --t64
        refine g_aload_n (n := 107) C dX11_feed_106 rfl rfl ?_
        refine g_dup (n := 108) C dX11_feed_107 rfl rfl ?_
        refine m_get (n := 111) 15 C dX11_feed_108 rfl (by decide) rfl w_1115 rfl ?_
        refine g_bipush (n := 113) (v := 20) C dX11_feed_111 rfl (by decide) ?_
        refine g_iadd (n := 114) C dX11_feed_113 rfl ?_
        refine m_put (n := 117) 15 C dX11_feed_114 rfl (by decide) w_1115 rfl rfl rfl mfs_15 ?_
        refine g_aload_n (n := 118) C dX11_feed_117 rfl rfl ?_
        refine m_get (n := 121) 15 C dX11_feed_118 rfl (by decide) rfl w_1115 rfl ?_
        refine g_iret C dX11_feed_121 (by decide) (by decide) ?_
        have ep : p = 20 := i_eq (n := 20) rfl zc64 hlep (by decide)
        subst ep
        rw [eB]
        exact k2 h20
      · --f64
        refine g_aload_n (n := 68) C dX11_feed_67 rfl rfl ?_
        refine m_get (n := 71) 14 C dX11_feed_68 rfl (by decide) rfl w_1114 rfl ?_
        refine g_aload_n (n := 72) C dX11_feed_71 rfl rfl ?_
        refine m_get (n := 75) 15 C dX11_feed_72 rfl (by decide) rfl w_1115 rfl ?_
        refine g_iload (n := 77) C dX11_feed_75 rfl rfl ?_
        refine g_iadd (n := 78) C dX11_feed_77 rfl ?_
        refine g_aload_n (n := 79) C dX11_feed_78 rfl rfl ?_
        refine m_get (n := 82) 20 C dX11_feed_79 rfl (by decide) rfl w_1120 rfl ?_
        refine g_iload (n := 84) C dX11_feed_82 rfl rfl ?_
        refine g_iconst (n := 85) (v := 4) C dX11_feed_84 rfl (by decide) ?_
        refine g_idiv (n := 86) C dX11_feed_85 rfl (by decide) ?_
        refine m_iald (n := 87) (v := (rfv A x0 x1 x2 x3 x4 20 (p / 4))) 20 (p / 4) C dX11_feed_86 rfl I (by decide) rfl (fidx p (i_lt (n := 20) rfl zc64 hlep (by decide))).1 (fidx p (i_lt (n := 20) rfl zc64 hlep (by decide))).2 (by decide) (by rw [eB, ft_ne _ _ _ (by decide)]) ?_
        refine g_bipush (n := 89) (v := 24) C dX11_feed_87 rfl (by decide) ?_
        refine g_bipush (n := 91) (v := 8) C dX11_feed_89 rfl (by decide) ?_
        refine g_iload (n := 93) C dX11_feed_91 rfl rfl ?_
        refine g_iconst (n := 94) (v := 4) C dX11_feed_93 rfl (by decide) ?_
        refine g_irem (n := 95) C dX11_feed_94 rfl (by decide) ?_
        refine g_imul (n := 96) C dX11_feed_95 rfl ?_
        refine g_isub (n := 97) C dX11_feed_96 rfl ?_
        refine g_ishr (n := 98) C dX11_feed_97 rfl ?_
        refine g_i2b (n := 99) C dX11_feed_98 rfl ?_
        refine m_bast (n := 100) 14 (t + p) C dX11_feed_99 rfl I (by decide) (fun _ => rfl) (by rw [show upd F 0 0 15 = nI t from ht]; exact nI_add t p) (by have := (i_lt (n := 20) rfl zc64 hlep (by decide)); omega) (by decide) ?_
        refine g_iinc (n := 103) C dX11_feed_100 rfl rfl rfl (by decide) ?_
        refine g_goto (t := 60) C dX11_feed_103 (by decide) ?_
        exact g_lv [0, 6] rfl (ihp (i_lt (n := 20) rfl zc64 hlep (by decide)) _ _ (by rw [eB]; exact ft_s _ t p) (nI_1 p))
    exact g_lv [0, 6] rfl (lp 0 (Nat.zero_le _) _ _ (ft_0 _ _).symm rfl)
  · --f15
    have h20 : 380 < t := by
      rcases Nat.lt_or_ge 380 t with q | q
      · exact q
      · have e9 : upd F 0 0 15 + 20 = nI (t + 20) := by rw [show upd F 0 0 15 = nI t from ht]; exact nI_add t 20
        rw [e9] at zc15
        exact absurd (nI_le (a := t + 20) (b := 400) (by omega) (by decide)) zc15
    refine g_iconst (n := 19) (v := (-1)) C dX11_feed_18 rfl (by decide) ?_
    refine g_iret C dX11_feed_19 (by decide) (by decide) ?_
    exact k1 h20
theorem dX11_law_0 : decode cX11_law 0 = .ok (.aload_n 0, 1) := by decide +kernel
theorem dX11_law_1 : decode cX11_law 1 = .ok (.iconst 0, 1) := by decide +kernel
theorem dX11_law_2 : decode cX11_law 2 = .ok (.putfield 76, 3) := by decide +kernel
theorem dX11_law_5 : decode cX11_law 5 = .ok (.iconst 0, 1) := by decide +kernel
theorem dX11_law_6 : decode cX11_law 6 = .ok (.istore_n 1, 1) := by decide +kernel
theorem dX11_law_7 : decode cX11_law 7 = .ok (.iload_n 1, 1) := by decide +kernel
theorem dX11_law_8 : decode cX11_law 8 = .ok (.iconst 3, 1) := by decide +kernel
theorem dX11_law_9 : decode cX11_law 9 = .ok (.if_icmp .ge 21, 3) := by decide +kernel
theorem dX11_law_12 : decode cX11_law 12 = .ok (.aload_n 0, 1) := by decide +kernel
theorem dX11_law_13 : decode cX11_law 13 = .ok (.getfield 38, 3) := by decide +kernel
theorem dX11_law_16 : decode cX11_law 16 = .ok (.iload_n 1, 1) := by decide +kernel
theorem dX11_law_17 : decode cX11_law 17 = .ok (.aload_n 0, 1) := by decide +kernel
theorem dX11_law_18 : decode cX11_law 18 = .ok (.getfield 32, 3) := by decide +kernel
theorem dX11_law_21 : decode cX11_law 21 = .ok (.iload_n 1, 1) := by decide +kernel
theorem dX11_law_22 : decode cX11_law 22 = .ok (.iaload, 1) := by decide +kernel
theorem dX11_law_23 : decode cX11_law 23 = .ok (.iastore, 1) := by decide +kernel
theorem dX11_law_24 : decode cX11_law 24 = .ok (.iinc 1 1, 3) := by decide +kernel
theorem dX11_law_27 : decode cX11_law 27 = .ok (.goto (-20), 3) := by decide +kernel
theorem dX11_law_30 : decode cX11_law 30 = .ok (.aload_n 0, 1) := by decide +kernel
theorem dX11_law_31 : decode cX11_law 31 = .ok (.iconst 1, 1) := by decide +kernel
theorem dX11_law_32 : decode cX11_law 32 = .ok (.invokevirtual 158, 3) := by decide +kernel
theorem dX11_law_35 : decode cX11_law 35 = .ok (.istore_n 1, 1) := by decide +kernel
theorem dX11_law_36 : decode cX11_law 36 = .ok (.aload_n 0, 1) := by decide +kernel
theorem dX11_law_37 : decode cX11_law 37 = .ok (.iload_n 1, 1) := by decide +kernel
theorem dX11_law_38 : decode cX11_law 38 = .ok (.ifCond .ge 10, 3) := by decide +kernel
theorem dX11_law_41 : decode cX11_law 41 = .ok (.aload_n 0, 1) := by decide +kernel
theorem dX11_law_42 : decode cX11_law 42 = .ok (.getfield 102, 3) := by decide +kernel
theorem dX11_law_45 : decode cX11_law 45 = .ok (.goto 4, 3) := by decide +kernel
theorem dX11_law_48 : decode cX11_law 48 = .ok (.iconst (-1), 1) := by decide +kernel
theorem dX11_law_49 : decode cX11_law 49 = .ok (.putfield 45, 3) := by decide +kernel
theorem dX11_law_52 : decode cX11_law 52 = .ok (.aload_n 0, 1) := by decide +kernel
theorem dX11_law_53 : decode cX11_law 53 = .ok (.iload_n 1, 1) := by decide +kernel
theorem dX11_law_54 : decode cX11_law 54 = .ok (.ifCond .ge 7, 3) := by decide +kernel
theorem dX11_law_57 : decode cX11_law 57 = .ok (.iconst 1, 1) := by decide +kernel
theorem dX11_law_58 : decode cX11_law 58 = .ok (.goto 4, 3) := by decide +kernel
theorem dX11_law_61 : decode cX11_law 61 = .ok (.iconst 0, 1) := by decide +kernel
theorem dX11_law_62 : decode cX11_law 62 = .ok (.iconst 1, 1) := by decide +kernel
theorem dX11_law_63 : decode cX11_law 63 = .ok (.invokevirtual 162, 3) := by decide +kernel
theorem dX11_law_66 : decode cX11_law 66 = .ok (.ifCond .eq 5, 3) := by decide +kernel
theorem dX11_law_69 : decode cX11_law 69 = .ok (.iconst 0, 1) := by decide +kernel
theorem dX11_law_70 : decode cX11_law 70 = .ok (.ireturn, 1) := by decide +kernel
theorem dX11_law_71 : decode cX11_law 71 = .ok (.iconst 0, 1) := by decide +kernel
theorem dX11_law_72 : decode cX11_law 72 = .ok (.istore_n 2, 1) := by decide +kernel
theorem dX11_law_73 : decode cX11_law 73 = .ok (.iload_n 2, 1) := by decide +kernel
theorem dX11_law_74 : decode cX11_law 74 = .ok (.iconst 3, 1) := by decide +kernel
theorem dX11_law_75 : decode cX11_law 75 = .ok (.if_icmp .ge 21, 3) := by decide +kernel
theorem dX11_law_78 : decode cX11_law 78 = .ok (.aload_n 0, 1) := by decide +kernel
theorem dX11_law_79 : decode cX11_law 79 = .ok (.getfield 32, 3) := by decide +kernel
theorem dX11_law_82 : decode cX11_law 82 = .ok (.iload_n 2, 1) := by decide +kernel
theorem dX11_law_83 : decode cX11_law 83 = .ok (.aload_n 0, 1) := by decide +kernel
theorem dX11_law_84 : decode cX11_law 84 = .ok (.getfield 38, 3) := by decide +kernel
theorem dX11_law_87 : decode cX11_law 87 = .ok (.iload_n 2, 1) := by decide +kernel
theorem dX11_law_88 : decode cX11_law 88 = .ok (.iaload, 1) := by decide +kernel
theorem dX11_law_89 : decode cX11_law 89 = .ok (.iastore, 1) := by decide +kernel
theorem dX11_law_90 : decode cX11_law 90 = .ok (.iinc 2 1, 3) := by decide +kernel
theorem dX11_law_93 : decode cX11_law 93 = .ok (.goto (-20), 3) := by decide +kernel
theorem dX11_law_96 : decode cX11_law 96 = .ok (.iload_n 1, 1) := by decide +kernel
theorem dX11_law_97 : decode cX11_law 97 = .ok (.ireturn, 1) := by decide +kernel
set_option maxHeartbeats 1000000 in
set_option maxRecDepth 20000 in
theorem ct_law {l : Launch} {E : Ev} {P : Value → AH → Prop} {o : Nat} {ad : Nat → Nat} {F : Nat → Int32} {A : Nat → Nat → Int32} {h : AH}  (I : mI o ad) {e : Nat} (he : F 15 = nI e) (he4 : e ≤ 400) (k1 : (rlawS A e).1 < 0 → P (.int 0) (mh E o ad (upd (upd (pF (rG (upd F 0 0)) (rlawS A e).2.1 (rlawS A e).2.2.1) 19 (nI (rlawS A e).2.2.1)) 0 1) (rlawS A e).2.2.2 h)) (k2 : ¬ (rlawS A e).1 < 0 → P (.int (rlawS A e).1) (mh E o ad (upd (pF (rG (upd F 0 0)) (rlawS A e).2.1 (rlawS A e).2.2.1) 19 (-1)) (rlw (rlawS A e).2.2.2) h)) : Mt l E yX11_law cX11_law 3 (some .int) 10 217 0 0 [.ref o] (mh E o ad F A h) P := by
  refine Mt.of (by decide) (Nat.le_of_ble_eq_true rfl) ?_
  intro K hK hR C
  refine g_aload_n (n := 1) C dX11_law_0 rfl rfl ?_
  refine g_iconst (n := 2) (v := 0) C dX11_law_1 rfl (by decide) ?_
  refine m_put (n := 5) 0 C dX11_law_2 rfl (by decide) w_1100 rfl rfl rfl mfs_0 ?_
  refine g_iconst (n := 6) (v := 0) C dX11_law_5 rfl (by decide) ?_
  refine g_istore_n (n := 7) C dX11_law_6 rfl (by decide) ?_
  refine g_iload_n (n := 8) C dX11_law_7 rfl rfl ?_
  refine g_iconst (n := 9) (v := 3) C dX11_law_8 rfl (by decide) ?_
  refine g_icmp_ge (n := 12) (t := 30) C dX11_law_9 rfl (by decide) (fun zc9 => ?_) (fun zc9 => ?_)
  · exact absurd zc9 (by decide)
  refine g_aload_n (n := 13) C dX11_law_12 rfl rfl ?_
  refine m_get (n := 16) 12 C dX11_law_13 rfl (by decide) rfl w_1112 rfl ?_
  refine g_iload_n (n := 17) C dX11_law_16 rfl rfl ?_
  refine g_aload_n (n := 18) C dX11_law_17 rfl rfl ?_
  refine m_get (n := 21) 10 C dX11_law_18 rfl (by decide) rfl w_1110 rfl ?_
  refine g_iload_n (n := 22) C dX11_law_21 rfl rfl ?_
  refine m_iald (n := 23) (v := (A 10 0)) 10 (0) C dX11_law_22 rfl I (by decide) rfl rfl (by decide) (by decide) (rfl) ?_
  refine m_iast (n := 24) 12 (0) C dX11_law_23 rfl I (by decide) (fun _ => rfl) rfl (by decide) (by decide) ?_
  refine g_iinc (n := 27) (v := 1) C dX11_law_24 rfl rfl (by decide) (by decide) ?_
  refine g_goto (t := 7) C dX11_law_27 (by decide) ?_
  refine g_iload_n (n := 8) C dX11_law_7 rfl rfl ?_
  refine g_iconst (n := 9) (v := 3) C dX11_law_8 rfl (by decide) ?_
  refine g_icmp_ge (n := 12) (t := 30) C dX11_law_9 rfl (by decide) (fun zc9 => ?_) (fun zc9 => ?_)
  · exact absurd zc9 (by decide)
  refine g_aload_n (n := 13) C dX11_law_12 rfl rfl ?_
  refine m_get (n := 16) 12 C dX11_law_13 rfl (by decide) rfl w_1112 rfl ?_
  refine g_iload_n (n := 17) C dX11_law_16 rfl rfl ?_
  refine g_aload_n (n := 18) C dX11_law_17 rfl rfl ?_
  refine m_get (n := 21) 10 C dX11_law_18 rfl (by decide) rfl w_1110 rfl ?_
  refine g_iload_n (n := 22) C dX11_law_21 rfl rfl ?_
  refine m_iald (n := 23) (v := (A 10 1)) 10 (1) C dX11_law_22 rfl I (by decide) rfl rfl (by decide) (by decide) (rfl) ?_
  refine m_iast (n := 24) 12 (1) C dX11_law_23 rfl I (by decide) (fun _ => rfl) rfl (by decide) (by decide) ?_
  refine g_iinc (n := 27) (v := 2) C dX11_law_24 rfl rfl (by decide) (by decide) ?_
  refine g_goto (t := 7) C dX11_law_27 (by decide) ?_
  refine g_iload_n (n := 8) C dX11_law_7 rfl rfl ?_
  refine g_iconst (n := 9) (v := 3) C dX11_law_8 rfl (by decide) ?_
  refine g_icmp_ge (n := 12) (t := 30) C dX11_law_9 rfl (by decide) (fun zc9 => ?_) (fun zc9 => ?_)
  · exact absurd zc9 (by decide)
  refine g_aload_n (n := 13) C dX11_law_12 rfl rfl ?_
  refine m_get (n := 16) 12 C dX11_law_13 rfl (by decide) rfl w_1112 rfl ?_
  refine g_iload_n (n := 17) C dX11_law_16 rfl rfl ?_
  refine g_aload_n (n := 18) C dX11_law_17 rfl rfl ?_
  refine m_get (n := 21) 10 C dX11_law_18 rfl (by decide) rfl w_1110 rfl ?_
  refine g_iload_n (n := 22) C dX11_law_21 rfl rfl ?_
  refine m_iald (n := 23) (v := (A 10 2)) 10 (2) C dX11_law_22 rfl I (by decide) rfl rfl (by decide) (by decide) (rfl) ?_
  refine m_iast (n := 24) 12 (2) C dX11_law_23 rfl I (by decide) (fun _ => rfl) rfl (by decide) (by decide) ?_
  refine g_iinc (n := 27) (v := 3) C dX11_law_24 rfl rfl (by decide) (by decide) ?_
  refine g_goto (t := 7) C dX11_law_27 (by decide) ?_
  refine g_iload_n (n := 8) C dX11_law_7 rfl rfl ?_
  refine g_iconst (n := 9) (v := 3) C dX11_law_8 rfl (by decide) ?_
  refine g_icmp_ge (n := 12) (t := 30) C dX11_law_9 rfl (by decide) (fun zc9 => ?_) (fun zc9 => ?_)
  rotate_left
  · exact absurd zc9 (by decide)
  refine g_aload_n (n := 31) C dX11_law_30 rfl rfl ?_
  refine g_iconst (n := 32) (v := 1) C dX11_law_31 rfl (by decide) ?_
  refine g_callV (n := 35) (As := [.int _]) C dX11_law_32 rfl mw_X11_readAll w_1210 (g_recv C mh_o rfl) rfl rfl (room hR rfl) (ct_readAll1 I he he4 ?_)
  
  refine g_istore_n (n := 36) C dX11_law_35 rfl (by decide) ?_
  refine g_aload_n (n := 37) C dX11_law_36 rfl rfl ?_
  refine g_iload_n (n := 38) C dX11_law_37 rfl rfl ?_
  refine g_if_ge (n := 41) (t := 48) C dX11_law_38 rfl (by decide) (fun zc38 => ?_) (fun zc38 => ?_)
  · --t38
    refine g_iconst (n := 49) (v := (-1)) C dX11_law_48 rfl (by decide) ?_
    refine m_put (n := 52) 19 C dX11_law_49 rfl (by decide) w_1119 rfl rfl rfl mfs_19 ?_
    refine g_aload_n (n := 53) C dX11_law_52 rfl rfl ?_
    refine g_iload_n (n := 54) C dX11_law_53 rfl rfl ?_
    refine g_if_ge (n := 57) (t := 61) C dX11_law_54 rfl (by decide) (fun zc54 => ?_) (fun zc54 => ?_)
    · --t54
      refine g_iconst (n := 62) (v := 0) C dX11_law_61 rfl (by decide) ?_
      refine g_iconst (n := 63) (v := 1) C dX11_law_62 rfl (by decide) ?_
      refine g_callV (n := 66) (As := [.int _, .int _]) C dX11_law_63 rfl mw_X11_throwsIf w_1257 (g_recv C mh_o rfl) rfl rfl (room hR rfl) (ct_throwsIf0 ?_)
      refine g_if_eq (n := 69) (t := 71) C dX11_law_66 rfl (by decide) (fun zc66 => ?_) (fun zc66 => ?_)
      rotate_left
      · exact absurd zc66 (by decide)
      refine g_iconst (n := 72) (v := 0) C dX11_law_71 rfl (by decide) ?_
      refine g_istore_n (n := 73) C dX11_law_72 rfl (by decide) ?_
      refine g_iload_n (n := 74) C dX11_law_73 rfl rfl ?_
      refine g_iconst (n := 75) (v := 3) C dX11_law_74 rfl (by decide) ?_
      refine g_icmp_ge (n := 78) (t := 96) C dX11_law_75 rfl (by decide) (fun zc75 => ?_) (fun zc75 => ?_)
      · exact absurd zc75 (by decide)
      refine g_aload_n (n := 79) C dX11_law_78 rfl rfl ?_
      refine m_get (n := 82) 10 C dX11_law_79 rfl (by decide) rfl w_1110 rfl ?_
      refine g_iload_n (n := 83) C dX11_law_82 rfl rfl ?_
      refine g_aload_n (n := 84) C dX11_law_83 rfl rfl ?_
      refine m_get (n := 87) 12 C dX11_law_84 rfl (by decide) rfl w_1112 rfl ?_
      refine g_iload_n (n := 88) C dX11_law_87 rfl rfl ?_
      refine m_iald (n := 89) (v := ((rlawS A e).2.2.2 12 0)) 12 (0) C dX11_law_88 rfl I (by decide) rfl rfl (by decide) (by decide) (rfl) ?_
      refine m_iast (n := 90) 10 (0) C dX11_law_89 rfl I (by decide) (fun _ => rfl) rfl (by decide) (by decide) ?_
      refine g_iinc (n := 93) (v := 1) C dX11_law_90 rfl rfl (by decide) (by decide) ?_
      refine g_goto (t := 73) C dX11_law_93 (by decide) ?_
      refine g_iload_n (n := 74) C dX11_law_73 rfl rfl ?_
      refine g_iconst (n := 75) (v := 3) C dX11_law_74 rfl (by decide) ?_
      refine g_icmp_ge (n := 78) (t := 96) C dX11_law_75 rfl (by decide) (fun zc75 => ?_) (fun zc75 => ?_)
      · exact absurd zc75 (by decide)
      refine g_aload_n (n := 79) C dX11_law_78 rfl rfl ?_
      refine m_get (n := 82) 10 C dX11_law_79 rfl (by decide) rfl w_1110 rfl ?_
      refine g_iload_n (n := 83) C dX11_law_82 rfl rfl ?_
      refine g_aload_n (n := 84) C dX11_law_83 rfl rfl ?_
      refine m_get (n := 87) 12 C dX11_law_84 rfl (by decide) rfl w_1112 rfl ?_
      refine g_iload_n (n := 88) C dX11_law_87 rfl rfl ?_
      refine m_iald (n := 89) (v := ((rlawS A e).2.2.2 12 1)) 12 (1) C dX11_law_88 rfl I (by decide) rfl rfl (by decide) (by decide) (rfl) ?_
      refine m_iast (n := 90) 10 (1) C dX11_law_89 rfl I (by decide) (fun _ => rfl) rfl (by decide) (by decide) ?_
      refine g_iinc (n := 93) (v := 2) C dX11_law_90 rfl rfl (by decide) (by decide) ?_
      refine g_goto (t := 73) C dX11_law_93 (by decide) ?_
      refine g_iload_n (n := 74) C dX11_law_73 rfl rfl ?_
      refine g_iconst (n := 75) (v := 3) C dX11_law_74 rfl (by decide) ?_
      refine g_icmp_ge (n := 78) (t := 96) C dX11_law_75 rfl (by decide) (fun zc75 => ?_) (fun zc75 => ?_)
      · exact absurd zc75 (by decide)
      refine g_aload_n (n := 79) C dX11_law_78 rfl rfl ?_
      refine m_get (n := 82) 10 C dX11_law_79 rfl (by decide) rfl w_1110 rfl ?_
      refine g_iload_n (n := 83) C dX11_law_82 rfl rfl ?_
      refine g_aload_n (n := 84) C dX11_law_83 rfl rfl ?_
      refine m_get (n := 87) 12 C dX11_law_84 rfl (by decide) rfl w_1112 rfl ?_
      refine g_iload_n (n := 88) C dX11_law_87 rfl rfl ?_
      refine m_iald (n := 89) (v := ((rlawS A e).2.2.2 12 2)) 12 (2) C dX11_law_88 rfl I (by decide) rfl rfl (by decide) (by decide) (rfl) ?_
      refine m_iast (n := 90) 10 (2) C dX11_law_89 rfl I (by decide) (fun _ => rfl) rfl (by decide) (by decide) ?_
      refine g_iinc (n := 93) (v := 3) C dX11_law_90 rfl rfl (by decide) (by decide) ?_
      refine g_goto (t := 73) C dX11_law_93 (by decide) ?_
      refine g_iload_n (n := 74) C dX11_law_73 rfl rfl ?_
      refine g_iconst (n := 75) (v := 3) C dX11_law_74 rfl (by decide) ?_
      refine g_icmp_ge (n := 78) (t := 96) C dX11_law_75 rfl (by decide) (fun zc75 => ?_) (fun zc75 => ?_)
      rotate_left
      · exact absurd zc75 (by decide)
      refine g_iload_n (n := 97) C dX11_law_96 rfl rfl ?_
      refine g_iret C dX11_law_97 (by decide) (by decide) ?_
      first | exact k2 (Int32.not_lt.mpr zc38) | exact absurd zc54 zc38
    · --f54
      refine g_iconst (n := 58) (v := 1) C dX11_law_57 rfl (by decide) ?_
      refine g_goto (t := 62) C dX11_law_58 (by decide) ?_
      refine g_iconst (n := 63) (v := 1) C dX11_law_62 rfl (by decide) ?_
      refine g_callV (n := 66) (As := [.int _, .int _]) C dX11_law_63 rfl mw_X11_throwsIf w_1257 (g_recv C mh_o rfl) rfl rfl (room hR rfl) (ct_throwsIf1 ?_)
      refine g_if_eq (n := 69) (t := 71) C dX11_law_66 rfl (by decide) (fun zc66 => ?_) (fun zc66 => ?_)
      · exact absurd zc66 (by decide)
      refine g_iconst (n := 70) (v := 0) C dX11_law_69 rfl (by decide) ?_
      refine g_iret C dX11_law_70 (by decide) (by decide) ?_
      first | exact k1 (Int32.not_le.mp zc38) | exact absurd zc38 zc54
  · --f38
    refine g_aload_n (n := 42) C dX11_law_41 rfl rfl ?_
    refine m_get (n := 45) 18 C dX11_law_42 rfl (by decide) rfl w_1118 rfl ?_
    refine g_goto (t := 49) C dX11_law_45 (by decide) ?_
    refine m_put (n := 52) 19 C dX11_law_49 rfl (by decide) w_1119 rfl rfl rfl mfs_19 ?_
    refine g_aload_n (n := 53) C dX11_law_52 rfl rfl ?_
    refine g_iload_n (n := 54) C dX11_law_53 rfl rfl ?_
    refine g_if_ge (n := 57) (t := 61) C dX11_law_54 rfl (by decide) (fun zc54 => ?_) (fun zc54 => ?_)
    · --t54
      refine g_iconst (n := 62) (v := 0) C dX11_law_61 rfl (by decide) ?_
      refine g_iconst (n := 63) (v := 1) C dX11_law_62 rfl (by decide) ?_
      refine g_callV (n := 66) (As := [.int _, .int _]) C dX11_law_63 rfl mw_X11_throwsIf w_1257 (g_recv C mh_o rfl) rfl rfl (room hR rfl) (ct_throwsIf0 ?_)
      refine g_if_eq (n := 69) (t := 71) C dX11_law_66 rfl (by decide) (fun zc66 => ?_) (fun zc66 => ?_)
      rotate_left
      · exact absurd zc66 (by decide)
      refine g_iconst (n := 72) (v := 0) C dX11_law_71 rfl (by decide) ?_
      refine g_istore_n (n := 73) C dX11_law_72 rfl (by decide) ?_
      refine g_iload_n (n := 74) C dX11_law_73 rfl rfl ?_
      refine g_iconst (n := 75) (v := 3) C dX11_law_74 rfl (by decide) ?_
      refine g_icmp_ge (n := 78) (t := 96) C dX11_law_75 rfl (by decide) (fun zc75 => ?_) (fun zc75 => ?_)
      · exact absurd zc75 (by decide)
      refine g_aload_n (n := 79) C dX11_law_78 rfl rfl ?_
      refine m_get (n := 82) 10 C dX11_law_79 rfl (by decide) rfl w_1110 rfl ?_
      refine g_iload_n (n := 83) C dX11_law_82 rfl rfl ?_
      refine g_aload_n (n := 84) C dX11_law_83 rfl rfl ?_
      refine m_get (n := 87) 12 C dX11_law_84 rfl (by decide) rfl w_1112 rfl ?_
      refine g_iload_n (n := 88) C dX11_law_87 rfl rfl ?_
      refine m_iald (n := 89) (v := ((rlawS A e).2.2.2 12 0)) 12 (0) C dX11_law_88 rfl I (by decide) rfl rfl (by decide) (by decide) (rfl) ?_
      refine m_iast (n := 90) 10 (0) C dX11_law_89 rfl I (by decide) (fun _ => rfl) rfl (by decide) (by decide) ?_
      refine g_iinc (n := 93) (v := 1) C dX11_law_90 rfl rfl (by decide) (by decide) ?_
      refine g_goto (t := 73) C dX11_law_93 (by decide) ?_
      refine g_iload_n (n := 74) C dX11_law_73 rfl rfl ?_
      refine g_iconst (n := 75) (v := 3) C dX11_law_74 rfl (by decide) ?_
      refine g_icmp_ge (n := 78) (t := 96) C dX11_law_75 rfl (by decide) (fun zc75 => ?_) (fun zc75 => ?_)
      · exact absurd zc75 (by decide)
      refine g_aload_n (n := 79) C dX11_law_78 rfl rfl ?_
      refine m_get (n := 82) 10 C dX11_law_79 rfl (by decide) rfl w_1110 rfl ?_
      refine g_iload_n (n := 83) C dX11_law_82 rfl rfl ?_
      refine g_aload_n (n := 84) C dX11_law_83 rfl rfl ?_
      refine m_get (n := 87) 12 C dX11_law_84 rfl (by decide) rfl w_1112 rfl ?_
      refine g_iload_n (n := 88) C dX11_law_87 rfl rfl ?_
      refine m_iald (n := 89) (v := ((rlawS A e).2.2.2 12 1)) 12 (1) C dX11_law_88 rfl I (by decide) rfl rfl (by decide) (by decide) (rfl) ?_
      refine m_iast (n := 90) 10 (1) C dX11_law_89 rfl I (by decide) (fun _ => rfl) rfl (by decide) (by decide) ?_
      refine g_iinc (n := 93) (v := 2) C dX11_law_90 rfl rfl (by decide) (by decide) ?_
      refine g_goto (t := 73) C dX11_law_93 (by decide) ?_
      refine g_iload_n (n := 74) C dX11_law_73 rfl rfl ?_
      refine g_iconst (n := 75) (v := 3) C dX11_law_74 rfl (by decide) ?_
      refine g_icmp_ge (n := 78) (t := 96) C dX11_law_75 rfl (by decide) (fun zc75 => ?_) (fun zc75 => ?_)
      · exact absurd zc75 (by decide)
      refine g_aload_n (n := 79) C dX11_law_78 rfl rfl ?_
      refine m_get (n := 82) 10 C dX11_law_79 rfl (by decide) rfl w_1110 rfl ?_
      refine g_iload_n (n := 83) C dX11_law_82 rfl rfl ?_
      refine g_aload_n (n := 84) C dX11_law_83 rfl rfl ?_
      refine m_get (n := 87) 12 C dX11_law_84 rfl (by decide) rfl w_1112 rfl ?_
      refine g_iload_n (n := 88) C dX11_law_87 rfl rfl ?_
      refine m_iald (n := 89) (v := ((rlawS A e).2.2.2 12 2)) 12 (2) C dX11_law_88 rfl I (by decide) rfl rfl (by decide) (by decide) (rfl) ?_
      refine m_iast (n := 90) 10 (2) C dX11_law_89 rfl I (by decide) (fun _ => rfl) rfl (by decide) (by decide) ?_
      refine g_iinc (n := 93) (v := 3) C dX11_law_90 rfl rfl (by decide) (by decide) ?_
      refine g_goto (t := 73) C dX11_law_93 (by decide) ?_
      refine g_iload_n (n := 74) C dX11_law_73 rfl rfl ?_
      refine g_iconst (n := 75) (v := 3) C dX11_law_74 rfl (by decide) ?_
      refine g_icmp_ge (n := 78) (t := 96) C dX11_law_75 rfl (by decide) (fun zc75 => ?_) (fun zc75 => ?_)
      rotate_left
      · exact absurd zc75 (by decide)
      refine g_iload_n (n := 97) C dX11_law_96 rfl rfl ?_
      refine g_iret C dX11_law_97 (by decide) (by decide) ?_
      first | exact k2 (Int32.not_lt.mpr zc38) | exact absurd zc54 zc38
    · --f54
      refine g_iconst (n := 58) (v := 1) C dX11_law_57 rfl (by decide) ?_
      refine g_goto (t := 62) C dX11_law_58 (by decide) ?_
      refine g_iconst (n := 63) (v := 1) C dX11_law_62 rfl (by decide) ?_
      refine g_callV (n := 66) (As := [.int _, .int _]) C dX11_law_63 rfl mw_X11_throwsIf w_1257 (g_recv C mh_o rfl) rfl rfl (room hR rfl) (ct_throwsIf1 ?_)
      refine g_if_eq (n := 69) (t := 71) C dX11_law_66 rfl (by decide) (fun zc66 => ?_) (fun zc66 => ?_)
      · exact absurd zc66 (by decide)
      refine g_iconst (n := 70) (v := 0) C dX11_law_69 rfl (by decide) ?_
      refine g_iret C dX11_law_70 (by decide) (by decide) ?_
      first | exact k1 (Int32.not_le.mp zc38) | exact absurd zc38 zc54
theorem dX11_agreement_0 : decode cX11_agreement 0 = .ok (.aload_n 0, 1) := by decide +kernel
theorem dX11_agreement_1 : decode cX11_agreement 1 = .ok (.iconst 0, 1) := by decide +kernel
theorem dX11_agreement_2 : decode cX11_agreement 2 = .ok (.putfield 76, 3) := by decide +kernel
theorem dX11_agreement_5 : decode cX11_agreement 5 = .ok (.iconst 0, 1) := by decide +kernel
theorem dX11_agreement_6 : decode cX11_agreement 6 = .ok (.istore_n 1, 1) := by decide +kernel
theorem dX11_agreement_7 : decode cX11_agreement 7 = .ok (.iload_n 1, 1) := by decide +kernel
theorem dX11_agreement_8 : decode cX11_agreement 8 = .ok (.bipush 7, 2) := by decide +kernel
theorem dX11_agreement_10 : decode cX11_agreement 10 = .ok (.if_icmp .ge 16, 3) := by decide +kernel
theorem dX11_agreement_13 : decode cX11_agreement 13 = .ok (.aload_n 0, 1) := by decide +kernel
theorem dX11_agreement_14 : decode cX11_agreement 14 = .ok (.getfield 38, 3) := by decide +kernel
theorem dX11_agreement_17 : decode cX11_agreement 17 = .ok (.iload_n 1, 1) := by decide +kernel
theorem dX11_agreement_18 : decode cX11_agreement 18 = .ok (.iconst 0, 1) := by decide +kernel
theorem dX11_agreement_19 : decode cX11_agreement 19 = .ok (.iastore, 1) := by decide +kernel
theorem dX11_agreement_20 : decode cX11_agreement 20 = .ok (.iinc 1 1, 3) := by decide +kernel
theorem dX11_agreement_23 : decode cX11_agreement 23 = .ok (.goto (-16), 3) := by decide +kernel
theorem dX11_agreement_26 : decode cX11_agreement 26 = .ok (.aload_n 0, 1) := by decide +kernel
theorem dX11_agreement_27 : decode cX11_agreement 27 = .ok (.iconst 0, 1) := by decide +kernel
theorem dX11_agreement_28 : decode cX11_agreement 28 = .ok (.invokevirtual 158, 3) := by decide +kernel
theorem dX11_agreement_31 : decode cX11_agreement 31 = .ok (.istore_n 1, 1) := by decide +kernel
theorem dX11_agreement_32 : decode cX11_agreement 32 = .ok (.aload_n 0, 1) := by decide +kernel
theorem dX11_agreement_33 : decode cX11_agreement 33 = .ok (.iload_n 1, 1) := by decide +kernel
theorem dX11_agreement_34 : decode cX11_agreement 34 = .ok (.ifCond .ge 10, 3) := by decide +kernel
theorem dX11_agreement_37 : decode cX11_agreement 37 = .ok (.aload_n 0, 1) := by decide +kernel
theorem dX11_agreement_38 : decode cX11_agreement 38 = .ok (.getfield 102, 3) := by decide +kernel
theorem dX11_agreement_41 : decode cX11_agreement 41 = .ok (.goto 4, 3) := by decide +kernel
theorem dX11_agreement_44 : decode cX11_agreement 44 = .ok (.iconst (-1), 1) := by decide +kernel
theorem dX11_agreement_45 : decode cX11_agreement 45 = .ok (.putfield 45, 3) := by decide +kernel
theorem dX11_agreement_48 : decode cX11_agreement 48 = .ok (.aload_n 0, 1) := by decide +kernel
theorem dX11_agreement_49 : decode cX11_agreement 49 = .ok (.iload_n 1, 1) := by decide +kernel
theorem dX11_agreement_50 : decode cX11_agreement 50 = .ok (.ifCond .ge 7, 3) := by decide +kernel
theorem dX11_agreement_53 : decode cX11_agreement 53 = .ok (.iconst 1, 1) := by decide +kernel
theorem dX11_agreement_54 : decode cX11_agreement 54 = .ok (.goto 4, 3) := by decide +kernel
theorem dX11_agreement_57 : decode cX11_agreement 57 = .ok (.iconst 0, 1) := by decide +kernel
theorem dX11_agreement_58 : decode cX11_agreement 58 = .ok (.iconst 1, 1) := by decide +kernel
theorem dX11_agreement_59 : decode cX11_agreement 59 = .ok (.invokevirtual 162, 3) := by decide +kernel
theorem dX11_agreement_62 : decode cX11_agreement 62 = .ok (.ifCond .eq 5, 3) := by decide +kernel
theorem dX11_agreement_65 : decode cX11_agreement 65 = .ok (.iconst 0, 1) := by decide +kernel
theorem dX11_agreement_66 : decode cX11_agreement 66 = .ok (.ireturn, 1) := by decide +kernel
theorem dX11_agreement_67 : decode cX11_agreement 67 = .ok (.iconst 0, 1) := by decide +kernel
theorem dX11_agreement_68 : decode cX11_agreement 68 = .ok (.istore_n 2, 1) := by decide +kernel
theorem dX11_agreement_69 : decode cX11_agreement 69 = .ok (.iload_n 2, 1) := by decide +kernel
theorem dX11_agreement_70 : decode cX11_agreement 70 = .ok (.bipush 7, 2) := by decide +kernel
theorem dX11_agreement_72 : decode cX11_agreement 72 = .ok (.if_icmp .ge 21, 3) := by decide +kernel
theorem dX11_agreement_75 : decode cX11_agreement 75 = .ok (.aload_n 0, 1) := by decide +kernel
theorem dX11_agreement_76 : decode cX11_agreement 76 = .ok (.getfield 35, 3) := by decide +kernel
theorem dX11_agreement_79 : decode cX11_agreement 79 = .ok (.iload_n 2, 1) := by decide +kernel
theorem dX11_agreement_80 : decode cX11_agreement 80 = .ok (.aload_n 0, 1) := by decide +kernel
theorem dX11_agreement_81 : decode cX11_agreement 81 = .ok (.getfield 38, 3) := by decide +kernel
theorem dX11_agreement_84 : decode cX11_agreement 84 = .ok (.iload_n 2, 1) := by decide +kernel
theorem dX11_agreement_85 : decode cX11_agreement 85 = .ok (.iaload, 1) := by decide +kernel
theorem dX11_agreement_86 : decode cX11_agreement 86 = .ok (.iastore, 1) := by decide +kernel
theorem dX11_agreement_87 : decode cX11_agreement 87 = .ok (.iinc 2 1, 3) := by decide +kernel
theorem dX11_agreement_90 : decode cX11_agreement 90 = .ok (.goto (-21), 3) := by decide +kernel
theorem dX11_agreement_93 : decode cX11_agreement 93 = .ok (.aload_n 0, 1) := by decide +kernel
theorem dX11_agreement_94 : decode cX11_agreement 94 = .ok (.iconst 1, 1) := by decide +kernel
theorem dX11_agreement_95 : decode cX11_agreement 95 = .ok (.putfield 166, 3) := by decide +kernel
theorem dX11_agreement_98 : decode cX11_agreement 98 = .ok (.iload_n 1, 1) := by decide +kernel
theorem dX11_agreement_99 : decode cX11_agreement 99 = .ok (.ireturn, 1) := by decide +kernel
set_option maxHeartbeats 1000000 in
set_option maxRecDepth 20000 in
theorem ct_agreement {l : Launch} {E : Ev} {P : Value → AH → Prop} {o : Nat} {ad : Nat → Nat} {F : Nat → Int32} {A : Nat → Nat → Int32} {h : AH}  (I : mI o ad) {e : Nat} (he : F 15 = nI e) (he4 : e ≤ 400) (k1 : (ragrS A e).1 < 0 → P (.int 0) (mh E o ad (upd (upd (pF (rG (upd F 0 0)) (ragrS A e).2.1 (ragrS A e).2.2.1) 19 (nI (ragrS A e).2.2.1)) 0 1) (ragrS A e).2.2.2 h)) (k2 : ¬ (ragrS A e).1 < 0 → P (.int (ragrS A e).1) (mh E o ad (upd (upd (pF (rG (upd F 0 0)) (ragrS A e).2.1 (ragrS A e).2.2.1) 19 (-1)) 13 1) (rag (ragrS A e).2.2.2) h)) : Mt l E yX11_agreement cX11_agreement 3 (some .int) 10 217 0 0 [.ref o] (mh E o ad F A h) P := by
  refine Mt.of (by decide) (Nat.le_of_ble_eq_true rfl) ?_
  intro K hK hR C
  refine g_aload_n (n := 1) C dX11_agreement_0 rfl rfl ?_
  refine g_iconst (n := 2) (v := 0) C dX11_agreement_1 rfl (by decide) ?_
  refine m_put (n := 5) 0 C dX11_agreement_2 rfl (by decide) w_1100 rfl rfl rfl mfs_0 ?_
  refine g_iconst (n := 6) (v := 0) C dX11_agreement_5 rfl (by decide) ?_
  refine g_istore_n (n := 7) C dX11_agreement_6 rfl (by decide) ?_
  refine g_iload_n (n := 8) C dX11_agreement_7 rfl rfl ?_
  refine g_bipush (n := 10) (v := 7) C dX11_agreement_8 rfl (by decide) ?_
  refine g_icmp_ge (n := 13) (t := 26) C dX11_agreement_10 rfl (by decide) (fun zc10 => ?_) (fun zc10 => ?_)
  · exact absurd zc10 (by decide)
  refine g_aload_n (n := 14) C dX11_agreement_13 rfl rfl ?_
  refine m_get (n := 17) 12 C dX11_agreement_14 rfl (by decide) rfl w_1112 rfl ?_
  refine g_iload_n (n := 18) C dX11_agreement_17 rfl rfl ?_
  refine g_iconst (n := 19) (v := 0) C dX11_agreement_18 rfl (by decide) ?_
  refine m_iast (n := 20) 12 (0) C dX11_agreement_19 rfl I (by decide) (fun _ => rfl) rfl (by decide) (by decide) ?_
  refine g_iinc (n := 23) (v := 1) C dX11_agreement_20 rfl rfl (by decide) (by decide) ?_
  refine g_goto (t := 7) C dX11_agreement_23 (by decide) ?_
  refine g_iload_n (n := 8) C dX11_agreement_7 rfl rfl ?_
  refine g_bipush (n := 10) (v := 7) C dX11_agreement_8 rfl (by decide) ?_
  refine g_icmp_ge (n := 13) (t := 26) C dX11_agreement_10 rfl (by decide) (fun zc10 => ?_) (fun zc10 => ?_)
  · exact absurd zc10 (by decide)
  refine g_aload_n (n := 14) C dX11_agreement_13 rfl rfl ?_
  refine m_get (n := 17) 12 C dX11_agreement_14 rfl (by decide) rfl w_1112 rfl ?_
  refine g_iload_n (n := 18) C dX11_agreement_17 rfl rfl ?_
  refine g_iconst (n := 19) (v := 0) C dX11_agreement_18 rfl (by decide) ?_
  refine m_iast (n := 20) 12 (1) C dX11_agreement_19 rfl I (by decide) (fun _ => rfl) rfl (by decide) (by decide) ?_
  refine g_iinc (n := 23) (v := 2) C dX11_agreement_20 rfl rfl (by decide) (by decide) ?_
  refine g_goto (t := 7) C dX11_agreement_23 (by decide) ?_
  refine g_iload_n (n := 8) C dX11_agreement_7 rfl rfl ?_
  refine g_bipush (n := 10) (v := 7) C dX11_agreement_8 rfl (by decide) ?_
  refine g_icmp_ge (n := 13) (t := 26) C dX11_agreement_10 rfl (by decide) (fun zc10 => ?_) (fun zc10 => ?_)
  · exact absurd zc10 (by decide)
  refine g_aload_n (n := 14) C dX11_agreement_13 rfl rfl ?_
  refine m_get (n := 17) 12 C dX11_agreement_14 rfl (by decide) rfl w_1112 rfl ?_
  refine g_iload_n (n := 18) C dX11_agreement_17 rfl rfl ?_
  refine g_iconst (n := 19) (v := 0) C dX11_agreement_18 rfl (by decide) ?_
  refine m_iast (n := 20) 12 (2) C dX11_agreement_19 rfl I (by decide) (fun _ => rfl) rfl (by decide) (by decide) ?_
  refine g_iinc (n := 23) (v := 3) C dX11_agreement_20 rfl rfl (by decide) (by decide) ?_
  refine g_goto (t := 7) C dX11_agreement_23 (by decide) ?_
  refine g_iload_n (n := 8) C dX11_agreement_7 rfl rfl ?_
  refine g_bipush (n := 10) (v := 7) C dX11_agreement_8 rfl (by decide) ?_
  refine g_icmp_ge (n := 13) (t := 26) C dX11_agreement_10 rfl (by decide) (fun zc10 => ?_) (fun zc10 => ?_)
  · exact absurd zc10 (by decide)
  refine g_aload_n (n := 14) C dX11_agreement_13 rfl rfl ?_
  refine m_get (n := 17) 12 C dX11_agreement_14 rfl (by decide) rfl w_1112 rfl ?_
  refine g_iload_n (n := 18) C dX11_agreement_17 rfl rfl ?_
  refine g_iconst (n := 19) (v := 0) C dX11_agreement_18 rfl (by decide) ?_
  refine m_iast (n := 20) 12 (3) C dX11_agreement_19 rfl I (by decide) (fun _ => rfl) rfl (by decide) (by decide) ?_
  refine g_iinc (n := 23) (v := 4) C dX11_agreement_20 rfl rfl (by decide) (by decide) ?_
  refine g_goto (t := 7) C dX11_agreement_23 (by decide) ?_
  refine g_iload_n (n := 8) C dX11_agreement_7 rfl rfl ?_
  refine g_bipush (n := 10) (v := 7) C dX11_agreement_8 rfl (by decide) ?_
  refine g_icmp_ge (n := 13) (t := 26) C dX11_agreement_10 rfl (by decide) (fun zc10 => ?_) (fun zc10 => ?_)
  · exact absurd zc10 (by decide)
  refine g_aload_n (n := 14) C dX11_agreement_13 rfl rfl ?_
  refine m_get (n := 17) 12 C dX11_agreement_14 rfl (by decide) rfl w_1112 rfl ?_
  refine g_iload_n (n := 18) C dX11_agreement_17 rfl rfl ?_
  refine g_iconst (n := 19) (v := 0) C dX11_agreement_18 rfl (by decide) ?_
  refine m_iast (n := 20) 12 (4) C dX11_agreement_19 rfl I (by decide) (fun _ => rfl) rfl (by decide) (by decide) ?_
  refine g_iinc (n := 23) (v := 5) C dX11_agreement_20 rfl rfl (by decide) (by decide) ?_
  refine g_goto (t := 7) C dX11_agreement_23 (by decide) ?_
  refine g_iload_n (n := 8) C dX11_agreement_7 rfl rfl ?_
  refine g_bipush (n := 10) (v := 7) C dX11_agreement_8 rfl (by decide) ?_
  refine g_icmp_ge (n := 13) (t := 26) C dX11_agreement_10 rfl (by decide) (fun zc10 => ?_) (fun zc10 => ?_)
  · exact absurd zc10 (by decide)
  refine g_aload_n (n := 14) C dX11_agreement_13 rfl rfl ?_
  refine m_get (n := 17) 12 C dX11_agreement_14 rfl (by decide) rfl w_1112 rfl ?_
  refine g_iload_n (n := 18) C dX11_agreement_17 rfl rfl ?_
  refine g_iconst (n := 19) (v := 0) C dX11_agreement_18 rfl (by decide) ?_
  refine m_iast (n := 20) 12 (5) C dX11_agreement_19 rfl I (by decide) (fun _ => rfl) rfl (by decide) (by decide) ?_
  refine g_iinc (n := 23) (v := 6) C dX11_agreement_20 rfl rfl (by decide) (by decide) ?_
  refine g_goto (t := 7) C dX11_agreement_23 (by decide) ?_
  refine g_iload_n (n := 8) C dX11_agreement_7 rfl rfl ?_
  refine g_bipush (n := 10) (v := 7) C dX11_agreement_8 rfl (by decide) ?_
  refine g_icmp_ge (n := 13) (t := 26) C dX11_agreement_10 rfl (by decide) (fun zc10 => ?_) (fun zc10 => ?_)
  · exact absurd zc10 (by decide)
  refine g_aload_n (n := 14) C dX11_agreement_13 rfl rfl ?_
  refine m_get (n := 17) 12 C dX11_agreement_14 rfl (by decide) rfl w_1112 rfl ?_
  refine g_iload_n (n := 18) C dX11_agreement_17 rfl rfl ?_
  refine g_iconst (n := 19) (v := 0) C dX11_agreement_18 rfl (by decide) ?_
  refine m_iast (n := 20) 12 (6) C dX11_agreement_19 rfl I (by decide) (fun _ => rfl) rfl (by decide) (by decide) ?_
  refine g_iinc (n := 23) (v := 7) C dX11_agreement_20 rfl rfl (by decide) (by decide) ?_
  refine g_goto (t := 7) C dX11_agreement_23 (by decide) ?_
  refine g_iload_n (n := 8) C dX11_agreement_7 rfl rfl ?_
  refine g_bipush (n := 10) (v := 7) C dX11_agreement_8 rfl (by decide) ?_
  refine g_icmp_ge (n := 13) (t := 26) C dX11_agreement_10 rfl (by decide) (fun zc10 => ?_) (fun zc10 => ?_)
  rotate_left
  · exact absurd zc10 (by decide)
  refine g_aload_n (n := 27) C dX11_agreement_26 rfl rfl ?_
  refine g_iconst (n := 28) (v := 0) C dX11_agreement_27 rfl (by decide) ?_
  refine g_callV (n := 31) (As := [.int _]) C dX11_agreement_28 rfl mw_X11_readAll w_1210 (g_recv C mh_o rfl) rfl rfl (room hR rfl) (ct_readAll0 I he he4 ?_)
  
  refine g_istore_n (n := 32) C dX11_agreement_31 rfl (by decide) ?_
  refine g_aload_n (n := 33) C dX11_agreement_32 rfl rfl ?_
  refine g_iload_n (n := 34) C dX11_agreement_33 rfl rfl ?_
  refine g_if_ge (n := 37) (t := 44) C dX11_agreement_34 rfl (by decide) (fun zc34 => ?_) (fun zc34 => ?_)
  · --t34
    refine g_iconst (n := 45) (v := (-1)) C dX11_agreement_44 rfl (by decide) ?_
    refine m_put (n := 48) 19 C dX11_agreement_45 rfl (by decide) w_1119 rfl rfl rfl mfs_19 ?_
    refine g_aload_n (n := 49) C dX11_agreement_48 rfl rfl ?_
    refine g_iload_n (n := 50) C dX11_agreement_49 rfl rfl ?_
    refine g_if_ge (n := 53) (t := 57) C dX11_agreement_50 rfl (by decide) (fun zc50 => ?_) (fun zc50 => ?_)
    · --t50
      refine g_iconst (n := 58) (v := 0) C dX11_agreement_57 rfl (by decide) ?_
      refine g_iconst (n := 59) (v := 1) C dX11_agreement_58 rfl (by decide) ?_
      refine g_callV (n := 62) (As := [.int _, .int _]) C dX11_agreement_59 rfl mw_X11_throwsIf w_1257 (g_recv C mh_o rfl) rfl rfl (room hR rfl) (ct_throwsIf0 ?_)
      refine g_if_eq (n := 65) (t := 67) C dX11_agreement_62 rfl (by decide) (fun zc62 => ?_) (fun zc62 => ?_)
      rotate_left
      · exact absurd zc62 (by decide)
      refine g_iconst (n := 68) (v := 0) C dX11_agreement_67 rfl (by decide) ?_
      refine g_istore_n (n := 69) C dX11_agreement_68 rfl (by decide) ?_
      refine g_iload_n (n := 70) C dX11_agreement_69 rfl rfl ?_
      refine g_bipush (n := 72) (v := 7) C dX11_agreement_70 rfl (by decide) ?_
      refine g_icmp_ge (n := 75) (t := 93) C dX11_agreement_72 rfl (by decide) (fun zc72 => ?_) (fun zc72 => ?_)
      · exact absurd zc72 (by decide)
      refine g_aload_n (n := 76) C dX11_agreement_75 rfl rfl ?_
      refine m_get (n := 79) 11 C dX11_agreement_76 rfl (by decide) rfl w_1111 rfl ?_
      refine g_iload_n (n := 80) C dX11_agreement_79 rfl rfl ?_
      refine g_aload_n (n := 81) C dX11_agreement_80 rfl rfl ?_
      refine m_get (n := 84) 12 C dX11_agreement_81 rfl (by decide) rfl w_1112 rfl ?_
      refine g_iload_n (n := 85) C dX11_agreement_84 rfl rfl ?_
      refine m_iald (n := 86) (v := ((ragrS A e).2.2.2 12 0)) 12 (0) C dX11_agreement_85 rfl I (by decide) rfl rfl (by decide) (by decide) (rfl) ?_
      refine m_iast (n := 87) 11 (0) C dX11_agreement_86 rfl I (by decide) (fun _ => rfl) rfl (by decide) (by decide) ?_
      refine g_iinc (n := 90) (v := 1) C dX11_agreement_87 rfl rfl (by decide) (by decide) ?_
      refine g_goto (t := 69) C dX11_agreement_90 (by decide) ?_
      refine g_iload_n (n := 70) C dX11_agreement_69 rfl rfl ?_
      refine g_bipush (n := 72) (v := 7) C dX11_agreement_70 rfl (by decide) ?_
      refine g_icmp_ge (n := 75) (t := 93) C dX11_agreement_72 rfl (by decide) (fun zc72 => ?_) (fun zc72 => ?_)
      · exact absurd zc72 (by decide)
      refine g_aload_n (n := 76) C dX11_agreement_75 rfl rfl ?_
      refine m_get (n := 79) 11 C dX11_agreement_76 rfl (by decide) rfl w_1111 rfl ?_
      refine g_iload_n (n := 80) C dX11_agreement_79 rfl rfl ?_
      refine g_aload_n (n := 81) C dX11_agreement_80 rfl rfl ?_
      refine m_get (n := 84) 12 C dX11_agreement_81 rfl (by decide) rfl w_1112 rfl ?_
      refine g_iload_n (n := 85) C dX11_agreement_84 rfl rfl ?_
      refine m_iald (n := 86) (v := ((ragrS A e).2.2.2 12 1)) 12 (1) C dX11_agreement_85 rfl I (by decide) rfl rfl (by decide) (by decide) (rfl) ?_
      refine m_iast (n := 87) 11 (1) C dX11_agreement_86 rfl I (by decide) (fun _ => rfl) rfl (by decide) (by decide) ?_
      refine g_iinc (n := 90) (v := 2) C dX11_agreement_87 rfl rfl (by decide) (by decide) ?_
      refine g_goto (t := 69) C dX11_agreement_90 (by decide) ?_
      refine g_iload_n (n := 70) C dX11_agreement_69 rfl rfl ?_
      refine g_bipush (n := 72) (v := 7) C dX11_agreement_70 rfl (by decide) ?_
      refine g_icmp_ge (n := 75) (t := 93) C dX11_agreement_72 rfl (by decide) (fun zc72 => ?_) (fun zc72 => ?_)
      · exact absurd zc72 (by decide)
      refine g_aload_n (n := 76) C dX11_agreement_75 rfl rfl ?_
      refine m_get (n := 79) 11 C dX11_agreement_76 rfl (by decide) rfl w_1111 rfl ?_
      refine g_iload_n (n := 80) C dX11_agreement_79 rfl rfl ?_
      refine g_aload_n (n := 81) C dX11_agreement_80 rfl rfl ?_
      refine m_get (n := 84) 12 C dX11_agreement_81 rfl (by decide) rfl w_1112 rfl ?_
      refine g_iload_n (n := 85) C dX11_agreement_84 rfl rfl ?_
      refine m_iald (n := 86) (v := ((ragrS A e).2.2.2 12 2)) 12 (2) C dX11_agreement_85 rfl I (by decide) rfl rfl (by decide) (by decide) (rfl) ?_
      refine m_iast (n := 87) 11 (2) C dX11_agreement_86 rfl I (by decide) (fun _ => rfl) rfl (by decide) (by decide) ?_
      refine g_iinc (n := 90) (v := 3) C dX11_agreement_87 rfl rfl (by decide) (by decide) ?_
      refine g_goto (t := 69) C dX11_agreement_90 (by decide) ?_
      refine g_iload_n (n := 70) C dX11_agreement_69 rfl rfl ?_
      refine g_bipush (n := 72) (v := 7) C dX11_agreement_70 rfl (by decide) ?_
      refine g_icmp_ge (n := 75) (t := 93) C dX11_agreement_72 rfl (by decide) (fun zc72 => ?_) (fun zc72 => ?_)
      · exact absurd zc72 (by decide)
      refine g_aload_n (n := 76) C dX11_agreement_75 rfl rfl ?_
      refine m_get (n := 79) 11 C dX11_agreement_76 rfl (by decide) rfl w_1111 rfl ?_
      refine g_iload_n (n := 80) C dX11_agreement_79 rfl rfl ?_
      refine g_aload_n (n := 81) C dX11_agreement_80 rfl rfl ?_
      refine m_get (n := 84) 12 C dX11_agreement_81 rfl (by decide) rfl w_1112 rfl ?_
      refine g_iload_n (n := 85) C dX11_agreement_84 rfl rfl ?_
      refine m_iald (n := 86) (v := ((ragrS A e).2.2.2 12 3)) 12 (3) C dX11_agreement_85 rfl I (by decide) rfl rfl (by decide) (by decide) (rfl) ?_
      refine m_iast (n := 87) 11 (3) C dX11_agreement_86 rfl I (by decide) (fun _ => rfl) rfl (by decide) (by decide) ?_
      refine g_iinc (n := 90) (v := 4) C dX11_agreement_87 rfl rfl (by decide) (by decide) ?_
      refine g_goto (t := 69) C dX11_agreement_90 (by decide) ?_
      refine g_iload_n (n := 70) C dX11_agreement_69 rfl rfl ?_
      refine g_bipush (n := 72) (v := 7) C dX11_agreement_70 rfl (by decide) ?_
      refine g_icmp_ge (n := 75) (t := 93) C dX11_agreement_72 rfl (by decide) (fun zc72 => ?_) (fun zc72 => ?_)
      · exact absurd zc72 (by decide)
      refine g_aload_n (n := 76) C dX11_agreement_75 rfl rfl ?_
      refine m_get (n := 79) 11 C dX11_agreement_76 rfl (by decide) rfl w_1111 rfl ?_
      refine g_iload_n (n := 80) C dX11_agreement_79 rfl rfl ?_
      refine g_aload_n (n := 81) C dX11_agreement_80 rfl rfl ?_
      refine m_get (n := 84) 12 C dX11_agreement_81 rfl (by decide) rfl w_1112 rfl ?_
      refine g_iload_n (n := 85) C dX11_agreement_84 rfl rfl ?_
      refine m_iald (n := 86) (v := ((ragrS A e).2.2.2 12 4)) 12 (4) C dX11_agreement_85 rfl I (by decide) rfl rfl (by decide) (by decide) (rfl) ?_
      refine m_iast (n := 87) 11 (4) C dX11_agreement_86 rfl I (by decide) (fun _ => rfl) rfl (by decide) (by decide) ?_
      refine g_iinc (n := 90) (v := 5) C dX11_agreement_87 rfl rfl (by decide) (by decide) ?_
      refine g_goto (t := 69) C dX11_agreement_90 (by decide) ?_
      refine g_iload_n (n := 70) C dX11_agreement_69 rfl rfl ?_
      refine g_bipush (n := 72) (v := 7) C dX11_agreement_70 rfl (by decide) ?_
      refine g_icmp_ge (n := 75) (t := 93) C dX11_agreement_72 rfl (by decide) (fun zc72 => ?_) (fun zc72 => ?_)
      · exact absurd zc72 (by decide)
      refine g_aload_n (n := 76) C dX11_agreement_75 rfl rfl ?_
      refine m_get (n := 79) 11 C dX11_agreement_76 rfl (by decide) rfl w_1111 rfl ?_
      refine g_iload_n (n := 80) C dX11_agreement_79 rfl rfl ?_
      refine g_aload_n (n := 81) C dX11_agreement_80 rfl rfl ?_
      refine m_get (n := 84) 12 C dX11_agreement_81 rfl (by decide) rfl w_1112 rfl ?_
      refine g_iload_n (n := 85) C dX11_agreement_84 rfl rfl ?_
      refine m_iald (n := 86) (v := ((ragrS A e).2.2.2 12 5)) 12 (5) C dX11_agreement_85 rfl I (by decide) rfl rfl (by decide) (by decide) (rfl) ?_
      refine m_iast (n := 87) 11 (5) C dX11_agreement_86 rfl I (by decide) (fun _ => rfl) rfl (by decide) (by decide) ?_
      refine g_iinc (n := 90) (v := 6) C dX11_agreement_87 rfl rfl (by decide) (by decide) ?_
      refine g_goto (t := 69) C dX11_agreement_90 (by decide) ?_
      refine g_iload_n (n := 70) C dX11_agreement_69 rfl rfl ?_
      refine g_bipush (n := 72) (v := 7) C dX11_agreement_70 rfl (by decide) ?_
      refine g_icmp_ge (n := 75) (t := 93) C dX11_agreement_72 rfl (by decide) (fun zc72 => ?_) (fun zc72 => ?_)
      · exact absurd zc72 (by decide)
      refine g_aload_n (n := 76) C dX11_agreement_75 rfl rfl ?_
      refine m_get (n := 79) 11 C dX11_agreement_76 rfl (by decide) rfl w_1111 rfl ?_
      refine g_iload_n (n := 80) C dX11_agreement_79 rfl rfl ?_
      refine g_aload_n (n := 81) C dX11_agreement_80 rfl rfl ?_
      refine m_get (n := 84) 12 C dX11_agreement_81 rfl (by decide) rfl w_1112 rfl ?_
      refine g_iload_n (n := 85) C dX11_agreement_84 rfl rfl ?_
      refine m_iald (n := 86) (v := ((ragrS A e).2.2.2 12 6)) 12 (6) C dX11_agreement_85 rfl I (by decide) rfl rfl (by decide) (by decide) (rfl) ?_
      refine m_iast (n := 87) 11 (6) C dX11_agreement_86 rfl I (by decide) (fun _ => rfl) rfl (by decide) (by decide) ?_
      refine g_iinc (n := 90) (v := 7) C dX11_agreement_87 rfl rfl (by decide) (by decide) ?_
      refine g_goto (t := 69) C dX11_agreement_90 (by decide) ?_
      refine g_iload_n (n := 70) C dX11_agreement_69 rfl rfl ?_
      refine g_bipush (n := 72) (v := 7) C dX11_agreement_70 rfl (by decide) ?_
      refine g_icmp_ge (n := 75) (t := 93) C dX11_agreement_72 rfl (by decide) (fun zc72 => ?_) (fun zc72 => ?_)
      rotate_left
      · exact absurd zc72 (by decide)
      refine g_aload_n (n := 94) C dX11_agreement_93 rfl rfl ?_
      refine g_iconst (n := 95) (v := 1) C dX11_agreement_94 rfl (by decide) ?_
      refine m_putZ (n := 98) 13 C dX11_agreement_95 rfl (by decide) w_1113 rfl rfl rfl rfl rfl mfs_13 ?_
      refine g_iload_n (n := 99) C dX11_agreement_98 rfl rfl ?_
      refine g_iret C dX11_agreement_99 (by decide) (by decide) ?_
      first | exact k2 (Int32.not_lt.mpr zc34) | exact absurd zc50 zc34
    · --f50
      refine g_iconst (n := 54) (v := 1) C dX11_agreement_53 rfl (by decide) ?_
      refine g_goto (t := 58) C dX11_agreement_54 (by decide) ?_
      refine g_iconst (n := 59) (v := 1) C dX11_agreement_58 rfl (by decide) ?_
      refine g_callV (n := 62) (As := [.int _, .int _]) C dX11_agreement_59 rfl mw_X11_throwsIf w_1257 (g_recv C mh_o rfl) rfl rfl (room hR rfl) (ct_throwsIf1 ?_)
      refine g_if_eq (n := 65) (t := 67) C dX11_agreement_62 rfl (by decide) (fun zc62 => ?_) (fun zc62 => ?_)
      · exact absurd zc62 (by decide)
      refine g_iconst (n := 66) (v := 0) C dX11_agreement_65 rfl (by decide) ?_
      refine g_iret C dX11_agreement_66 (by decide) (by decide) ?_
      first | exact k1 (Int32.not_le.mp zc34) | exact absurd zc34 zc50
  · --f34
    refine g_aload_n (n := 38) C dX11_agreement_37 rfl rfl ?_
    refine m_get (n := 41) 18 C dX11_agreement_38 rfl (by decide) rfl w_1118 rfl ?_
    refine g_goto (t := 45) C dX11_agreement_41 (by decide) ?_
    refine m_put (n := 48) 19 C dX11_agreement_45 rfl (by decide) w_1119 rfl rfl rfl mfs_19 ?_
    refine g_aload_n (n := 49) C dX11_agreement_48 rfl rfl ?_
    refine g_iload_n (n := 50) C dX11_agreement_49 rfl rfl ?_
    refine g_if_ge (n := 53) (t := 57) C dX11_agreement_50 rfl (by decide) (fun zc50 => ?_) (fun zc50 => ?_)
    · --t50
      refine g_iconst (n := 58) (v := 0) C dX11_agreement_57 rfl (by decide) ?_
      refine g_iconst (n := 59) (v := 1) C dX11_agreement_58 rfl (by decide) ?_
      refine g_callV (n := 62) (As := [.int _, .int _]) C dX11_agreement_59 rfl mw_X11_throwsIf w_1257 (g_recv C mh_o rfl) rfl rfl (room hR rfl) (ct_throwsIf0 ?_)
      refine g_if_eq (n := 65) (t := 67) C dX11_agreement_62 rfl (by decide) (fun zc62 => ?_) (fun zc62 => ?_)
      rotate_left
      · exact absurd zc62 (by decide)
      refine g_iconst (n := 68) (v := 0) C dX11_agreement_67 rfl (by decide) ?_
      refine g_istore_n (n := 69) C dX11_agreement_68 rfl (by decide) ?_
      refine g_iload_n (n := 70) C dX11_agreement_69 rfl rfl ?_
      refine g_bipush (n := 72) (v := 7) C dX11_agreement_70 rfl (by decide) ?_
      refine g_icmp_ge (n := 75) (t := 93) C dX11_agreement_72 rfl (by decide) (fun zc72 => ?_) (fun zc72 => ?_)
      · exact absurd zc72 (by decide)
      refine g_aload_n (n := 76) C dX11_agreement_75 rfl rfl ?_
      refine m_get (n := 79) 11 C dX11_agreement_76 rfl (by decide) rfl w_1111 rfl ?_
      refine g_iload_n (n := 80) C dX11_agreement_79 rfl rfl ?_
      refine g_aload_n (n := 81) C dX11_agreement_80 rfl rfl ?_
      refine m_get (n := 84) 12 C dX11_agreement_81 rfl (by decide) rfl w_1112 rfl ?_
      refine g_iload_n (n := 85) C dX11_agreement_84 rfl rfl ?_
      refine m_iald (n := 86) (v := ((ragrS A e).2.2.2 12 0)) 12 (0) C dX11_agreement_85 rfl I (by decide) rfl rfl (by decide) (by decide) (rfl) ?_
      refine m_iast (n := 87) 11 (0) C dX11_agreement_86 rfl I (by decide) (fun _ => rfl) rfl (by decide) (by decide) ?_
      refine g_iinc (n := 90) (v := 1) C dX11_agreement_87 rfl rfl (by decide) (by decide) ?_
      refine g_goto (t := 69) C dX11_agreement_90 (by decide) ?_
      refine g_iload_n (n := 70) C dX11_agreement_69 rfl rfl ?_
      refine g_bipush (n := 72) (v := 7) C dX11_agreement_70 rfl (by decide) ?_
      refine g_icmp_ge (n := 75) (t := 93) C dX11_agreement_72 rfl (by decide) (fun zc72 => ?_) (fun zc72 => ?_)
      · exact absurd zc72 (by decide)
      refine g_aload_n (n := 76) C dX11_agreement_75 rfl rfl ?_
      refine m_get (n := 79) 11 C dX11_agreement_76 rfl (by decide) rfl w_1111 rfl ?_
      refine g_iload_n (n := 80) C dX11_agreement_79 rfl rfl ?_
      refine g_aload_n (n := 81) C dX11_agreement_80 rfl rfl ?_
      refine m_get (n := 84) 12 C dX11_agreement_81 rfl (by decide) rfl w_1112 rfl ?_
      refine g_iload_n (n := 85) C dX11_agreement_84 rfl rfl ?_
      refine m_iald (n := 86) (v := ((ragrS A e).2.2.2 12 1)) 12 (1) C dX11_agreement_85 rfl I (by decide) rfl rfl (by decide) (by decide) (rfl) ?_
      refine m_iast (n := 87) 11 (1) C dX11_agreement_86 rfl I (by decide) (fun _ => rfl) rfl (by decide) (by decide) ?_
      refine g_iinc (n := 90) (v := 2) C dX11_agreement_87 rfl rfl (by decide) (by decide) ?_
      refine g_goto (t := 69) C dX11_agreement_90 (by decide) ?_
      refine g_iload_n (n := 70) C dX11_agreement_69 rfl rfl ?_
      refine g_bipush (n := 72) (v := 7) C dX11_agreement_70 rfl (by decide) ?_
      refine g_icmp_ge (n := 75) (t := 93) C dX11_agreement_72 rfl (by decide) (fun zc72 => ?_) (fun zc72 => ?_)
      · exact absurd zc72 (by decide)
      refine g_aload_n (n := 76) C dX11_agreement_75 rfl rfl ?_
      refine m_get (n := 79) 11 C dX11_agreement_76 rfl (by decide) rfl w_1111 rfl ?_
      refine g_iload_n (n := 80) C dX11_agreement_79 rfl rfl ?_
      refine g_aload_n (n := 81) C dX11_agreement_80 rfl rfl ?_
      refine m_get (n := 84) 12 C dX11_agreement_81 rfl (by decide) rfl w_1112 rfl ?_
      refine g_iload_n (n := 85) C dX11_agreement_84 rfl rfl ?_
      refine m_iald (n := 86) (v := ((ragrS A e).2.2.2 12 2)) 12 (2) C dX11_agreement_85 rfl I (by decide) rfl rfl (by decide) (by decide) (rfl) ?_
      refine m_iast (n := 87) 11 (2) C dX11_agreement_86 rfl I (by decide) (fun _ => rfl) rfl (by decide) (by decide) ?_
      refine g_iinc (n := 90) (v := 3) C dX11_agreement_87 rfl rfl (by decide) (by decide) ?_
      refine g_goto (t := 69) C dX11_agreement_90 (by decide) ?_
      refine g_iload_n (n := 70) C dX11_agreement_69 rfl rfl ?_
      refine g_bipush (n := 72) (v := 7) C dX11_agreement_70 rfl (by decide) ?_
      refine g_icmp_ge (n := 75) (t := 93) C dX11_agreement_72 rfl (by decide) (fun zc72 => ?_) (fun zc72 => ?_)
      · exact absurd zc72 (by decide)
      refine g_aload_n (n := 76) C dX11_agreement_75 rfl rfl ?_
      refine m_get (n := 79) 11 C dX11_agreement_76 rfl (by decide) rfl w_1111 rfl ?_
      refine g_iload_n (n := 80) C dX11_agreement_79 rfl rfl ?_
      refine g_aload_n (n := 81) C dX11_agreement_80 rfl rfl ?_
      refine m_get (n := 84) 12 C dX11_agreement_81 rfl (by decide) rfl w_1112 rfl ?_
      refine g_iload_n (n := 85) C dX11_agreement_84 rfl rfl ?_
      refine m_iald (n := 86) (v := ((ragrS A e).2.2.2 12 3)) 12 (3) C dX11_agreement_85 rfl I (by decide) rfl rfl (by decide) (by decide) (rfl) ?_
      refine m_iast (n := 87) 11 (3) C dX11_agreement_86 rfl I (by decide) (fun _ => rfl) rfl (by decide) (by decide) ?_
      refine g_iinc (n := 90) (v := 4) C dX11_agreement_87 rfl rfl (by decide) (by decide) ?_
      refine g_goto (t := 69) C dX11_agreement_90 (by decide) ?_
      refine g_iload_n (n := 70) C dX11_agreement_69 rfl rfl ?_
      refine g_bipush (n := 72) (v := 7) C dX11_agreement_70 rfl (by decide) ?_
      refine g_icmp_ge (n := 75) (t := 93) C dX11_agreement_72 rfl (by decide) (fun zc72 => ?_) (fun zc72 => ?_)
      · exact absurd zc72 (by decide)
      refine g_aload_n (n := 76) C dX11_agreement_75 rfl rfl ?_
      refine m_get (n := 79) 11 C dX11_agreement_76 rfl (by decide) rfl w_1111 rfl ?_
      refine g_iload_n (n := 80) C dX11_agreement_79 rfl rfl ?_
      refine g_aload_n (n := 81) C dX11_agreement_80 rfl rfl ?_
      refine m_get (n := 84) 12 C dX11_agreement_81 rfl (by decide) rfl w_1112 rfl ?_
      refine g_iload_n (n := 85) C dX11_agreement_84 rfl rfl ?_
      refine m_iald (n := 86) (v := ((ragrS A e).2.2.2 12 4)) 12 (4) C dX11_agreement_85 rfl I (by decide) rfl rfl (by decide) (by decide) (rfl) ?_
      refine m_iast (n := 87) 11 (4) C dX11_agreement_86 rfl I (by decide) (fun _ => rfl) rfl (by decide) (by decide) ?_
      refine g_iinc (n := 90) (v := 5) C dX11_agreement_87 rfl rfl (by decide) (by decide) ?_
      refine g_goto (t := 69) C dX11_agreement_90 (by decide) ?_
      refine g_iload_n (n := 70) C dX11_agreement_69 rfl rfl ?_
      refine g_bipush (n := 72) (v := 7) C dX11_agreement_70 rfl (by decide) ?_
      refine g_icmp_ge (n := 75) (t := 93) C dX11_agreement_72 rfl (by decide) (fun zc72 => ?_) (fun zc72 => ?_)
      · exact absurd zc72 (by decide)
      refine g_aload_n (n := 76) C dX11_agreement_75 rfl rfl ?_
      refine m_get (n := 79) 11 C dX11_agreement_76 rfl (by decide) rfl w_1111 rfl ?_
      refine g_iload_n (n := 80) C dX11_agreement_79 rfl rfl ?_
      refine g_aload_n (n := 81) C dX11_agreement_80 rfl rfl ?_
      refine m_get (n := 84) 12 C dX11_agreement_81 rfl (by decide) rfl w_1112 rfl ?_
      refine g_iload_n (n := 85) C dX11_agreement_84 rfl rfl ?_
      refine m_iald (n := 86) (v := ((ragrS A e).2.2.2 12 5)) 12 (5) C dX11_agreement_85 rfl I (by decide) rfl rfl (by decide) (by decide) (rfl) ?_
      refine m_iast (n := 87) 11 (5) C dX11_agreement_86 rfl I (by decide) (fun _ => rfl) rfl (by decide) (by decide) ?_
      refine g_iinc (n := 90) (v := 6) C dX11_agreement_87 rfl rfl (by decide) (by decide) ?_
      refine g_goto (t := 69) C dX11_agreement_90 (by decide) ?_
      refine g_iload_n (n := 70) C dX11_agreement_69 rfl rfl ?_
      refine g_bipush (n := 72) (v := 7) C dX11_agreement_70 rfl (by decide) ?_
      refine g_icmp_ge (n := 75) (t := 93) C dX11_agreement_72 rfl (by decide) (fun zc72 => ?_) (fun zc72 => ?_)
      · exact absurd zc72 (by decide)
      refine g_aload_n (n := 76) C dX11_agreement_75 rfl rfl ?_
      refine m_get (n := 79) 11 C dX11_agreement_76 rfl (by decide) rfl w_1111 rfl ?_
      refine g_iload_n (n := 80) C dX11_agreement_79 rfl rfl ?_
      refine g_aload_n (n := 81) C dX11_agreement_80 rfl rfl ?_
      refine m_get (n := 84) 12 C dX11_agreement_81 rfl (by decide) rfl w_1112 rfl ?_
      refine g_iload_n (n := 85) C dX11_agreement_84 rfl rfl ?_
      refine m_iald (n := 86) (v := ((ragrS A e).2.2.2 12 6)) 12 (6) C dX11_agreement_85 rfl I (by decide) rfl rfl (by decide) (by decide) (rfl) ?_
      refine m_iast (n := 87) 11 (6) C dX11_agreement_86 rfl I (by decide) (fun _ => rfl) rfl (by decide) (by decide) ?_
      refine g_iinc (n := 90) (v := 7) C dX11_agreement_87 rfl rfl (by decide) (by decide) ?_
      refine g_goto (t := 69) C dX11_agreement_90 (by decide) ?_
      refine g_iload_n (n := 70) C dX11_agreement_69 rfl rfl ?_
      refine g_bipush (n := 72) (v := 7) C dX11_agreement_70 rfl (by decide) ?_
      refine g_icmp_ge (n := 75) (t := 93) C dX11_agreement_72 rfl (by decide) (fun zc72 => ?_) (fun zc72 => ?_)
      rotate_left
      · exact absurd zc72 (by decide)
      refine g_aload_n (n := 94) C dX11_agreement_93 rfl rfl ?_
      refine g_iconst (n := 95) (v := 1) C dX11_agreement_94 rfl (by decide) ?_
      refine m_putZ (n := 98) 13 C dX11_agreement_95 rfl (by decide) w_1113 rfl rfl rfl rfl rfl mfs_13 ?_
      refine g_iload_n (n := 99) C dX11_agreement_98 rfl rfl ?_
      refine g_iret C dX11_agreement_99 (by decide) (by decide) ?_
      first | exact k2 (Int32.not_lt.mpr zc34) | exact absurd zc50 zc34
    · --f50
      refine g_iconst (n := 54) (v := 1) C dX11_agreement_53 rfl (by decide) ?_
      refine g_goto (t := 58) C dX11_agreement_54 (by decide) ?_
      refine g_iconst (n := 59) (v := 1) C dX11_agreement_58 rfl (by decide) ?_
      refine g_callV (n := 62) (As := [.int _, .int _]) C dX11_agreement_59 rfl mw_X11_throwsIf w_1257 (g_recv C mh_o rfl) rfl rfl (room hR rfl) (ct_throwsIf1 ?_)
      refine g_if_eq (n := 65) (t := 67) C dX11_agreement_62 rfl (by decide) (fun zc62 => ?_) (fun zc62 => ?_)
      · exact absurd zc62 (by decide)
      refine g_iconst (n := 66) (v := 0) C dX11_agreement_65 rfl (by decide) ?_
      refine g_iret C dX11_agreement_66 (by decide) (by decide) ?_
      first | exact k1 (Int32.not_le.mp zc34) | exact absurd zc34 zc50
