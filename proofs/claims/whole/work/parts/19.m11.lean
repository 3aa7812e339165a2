/-- a text from place q on, its next clause the n-th -/
noncomputable def rallS (sp : (Nat → Nat → Int32) → Nat → Nat → RS) (fin : (Nat → Nat → Int32) → Prop) (e : Nat) : Nat → (Nat → Nat → Int32) → Nat → Nat → RS
  | 0, A, q, _ => (0, q, q, A)
  | f + 1, A, q, n => rif ((sp A e q).1 = 0) (-1, (sp A e q).2.1, (sp A e q).2.2.1, (sp A e q).2.2.2)
      (rif (rbl (sp A e q).2.2.2 e (sp A e q).2.1 = e) (rif (fin (sp A e q).2.2.2) (nI n, rbl (sp A e q).2.2.2 e (sp A e q).2.1, rbl (sp A e q).2.2.2 e (sp A e q).2.1, (sp A e q).2.2.2) (-1, rbl (sp A e q).2.2.2 e (sp A e q).2.1, rbl (sp A e q).2.2.2 e (sp A e q).2.1, (sp A e q).2.2.2))
        (rif (atc ((sp A e q).2.2.2 14) e (rbl (sp A e q).2.2.2 e (sp A e q).2.1) 59 59) (rallS sp fin e f (sp A e q).2.2.2 (rbl (sp A e q).2.2.2 e (sp A e q).2.1 + 1) (n + 1)) (-1, rbl (sp A e q).2.2.2 e (sp A e q).2.1, rbl (sp A e q).2.2.2 e (sp A e q).2.1, (sp A e q).2.2.2)))
theorem rall_n {sp : (Nat → Nat → Int32) → Nat → Nat → RS} {fin : (Nat → Nat → Int32) → Prop} {e f n q : Nat} {A : Nat → Nat → Int32} {X : RS} (h : rallS sp fin e (f + 1) A q n = X) (h0 : (sp A e q).1 = 0) : X = (-1, (sp A e q).2.1, (sp A e q).2.2.1, (sp A e q).2.2.2) := by
  rw [← h, rallS, rif_1 h0]
theorem rall_e {sp : (Nat → Nat → Int32) → Nat → Nat → RS} {fin : (Nat → Nat → Int32) → Prop} {e f n q : Nat} {A : Nat → Nat → Int32} {X : RS} (h : rallS sp fin e (f + 1) A q n = X) (h0 : ¬ (sp A e q).1 = 0) (h1 : rbl (sp A e q).2.2.2 e (sp A e q).2.1 = e) : (fin (sp A e q).2.2.2 → X = (nI n, e, e, (sp A e q).2.2.2)) ∧ (¬ fin (sp A e q).2.2.2 → X = (-1, e, e, (sp A e q).2.2.2)) := by
  refine ⟨fun hf => ?_, fun hf => ?_⟩
  · rw [← h, rallS, rif_0 h0, rif_1 h1, rif_1 hf, h1]
  · rw [← h, rallS, rif_0 h0, rif_1 h1, rif_0 hf, h1]
theorem rall_x {sp : (Nat → Nat → Int32) → Nat → Nat → RS} {fin : (Nat → Nat → Int32) → Prop} {e f n q : Nat} {A : Nat → Nat → Int32} {X : RS} (h : rallS sp fin e (f + 1) A q n = X) (h0 : ¬ (sp A e q).1 = 0) (h1 : ¬ rbl (sp A e q).2.2.2 e (sp A e q).2.1 = e) (h2 : ¬ atc ((sp A e q).2.2.2 14) e (rbl (sp A e q).2.2.2 e (sp A e q).2.1) 59 59) : X = (-1, rbl (sp A e q).2.2.2 e (sp A e q).2.1, rbl (sp A e q).2.2.2 e (sp A e q).2.1, (sp A e q).2.2.2) := by
  rw [← h, rallS, rif_0 h0, rif_0 h1, rif_0 h2]
theorem rall_s {sp : (Nat → Nat → Int32) → Nat → Nat → RS} {fin : (Nat → Nat → Int32) → Prop} {e f n q : Nat} {A : Nat → Nat → Int32} {X : RS} (h : rallS sp fin e (f + 1) A q n = X) (h0 : ¬ (sp A e q).1 = 0) (h1 : ¬ rbl (sp A e q).2.2.2 e (sp A e q).2.1 = e) (h2 : atc ((sp A e q).2.2.2 14) e (rbl (sp A e q).2.2.2 e (sp A e q).2.1) 59 59) : rallS sp fin e f (sp A e q).2.2.2 (rbl (sp A e q).2.2.2 e (sp A e q).2.1 + 1) (n + 1) = X := by
  rw [← h, rallS, rif_0 h0, rif_0 h1, rif_1 h2]
theorem pF_mk {G : Nat → Int32} {b : Nat} (h : G 18 = nI b) : upd G 16 0 = pF G 0 b := by
  funext k
  unfold pF upd
  by_cases h1 : k = 18
  · subst h1
    simp [h]
  · by_cases h2 : k = 16
    · subst h2
      rfl
    · simp [h1, h2]
theorem nI_ex (x : Int32) : ∃ b, x = nI b := ⟨x.toBitVec.toNat, by
  apply Int32.toBitVec_inj.mp
  show x.toBitVec = BitVec.ofNat 32 x.toBitVec.toNat
  simp⟩
def rfin (A : Nat → Nat → Int32) : Prop := A 12 1 + A 12 2 + A 12 3 + A 12 4 + A 12 5 ≤ 100
def rG (F : Nat → Int32) : Nat → Int32 := upd (upd F 17 (F 15)) 15 0
theorem dX11_readAll_0 : decode cX11_readAll 0 = .ok (.aload_n 0, 1) := by decide +kernel
theorem dX11_readAll_1 : decode cX11_readAll 1 = .ok (.aload_n 0, 1) := by decide +kernel
theorem dX11_readAll_2 : decode cX11_readAll 2 = .ok (.getfield 89, 3) := by decide +kernel
theorem dX11_readAll_5 : decode cX11_readAll 5 = .ok (.putfield 95, 3) := by decide +kernel
theorem dX11_readAll_8 : decode cX11_readAll 8 = .ok (.aload_n 0, 1) := by decide +kernel
theorem dX11_readAll_9 : decode cX11_readAll 9 = .ok (.iconst 0, 1) := by decide +kernel
theorem dX11_readAll_10 : decode cX11_readAll 10 = .ok (.putfield 89, 3) := by decide +kernel
theorem dX11_readAll_13 : decode cX11_readAll 13 = .ok (.aload_n 0, 1) := by decide +kernel
theorem dX11_readAll_14 : decode cX11_readAll 14 = .ok (.iconst 0, 1) := by decide +kernel
theorem dX11_readAll_15 : decode cX11_readAll 15 = .ok (.putfield 92, 3) := by decide +kernel
theorem dX11_readAll_18 : decode cX11_readAll 18 = .ok (.iconst 1, 1) := by decide +kernel
theorem dX11_readAll_19 : decode cX11_readAll 19 = .ok (.istore_n 2, 1) := by decide +kernel
theorem dX11_readAll_20 : decode cX11_readAll 20 = .ok (.iload_n 1, 1) := by decide +kernel
theorem dX11_readAll_21 : decode cX11_readAll 21 = .ok (.ifCond .eq 13, 3) := by decide +kernel
theorem dX11_readAll_24 : decode cX11_readAll 24 = .ok (.aload_n 0, 1) := by decide +kernel
theorem dX11_readAll_25 : decode cX11_readAll 25 = .ok (.invokevirtual 151, 3) := by decide +kernel
theorem dX11_readAll_28 : decode cX11_readAll 28 = .ok (.ifCond .ne 15, 3) := by decide +kernel
theorem dX11_readAll_31 : decode cX11_readAll 31 = .ok (.goto 10, 3) := by decide +kernel
theorem dX11_readAll_41 : decode cX11_readAll 41 = .ok (.iconst (-1), 1) := by decide +kernel
theorem dX11_readAll_42 : decode cX11_readAll 42 = .ok (.ireturn, 1) := by decide +kernel
theorem dX11_readAll_43 : decode cX11_readAll 43 = .ok (.aload_n 0, 1) := by decide +kernel
theorem dX11_readAll_44 : decode cX11_readAll 44 = .ok (.invokevirtual 105, 3) := by decide +kernel
theorem dX11_readAll_47 : decode cX11_readAll 47 = .ok (.aload_n 0, 1) := by decide +kernel
theorem dX11_readAll_48 : decode cX11_readAll 48 = .ok (.getfield 92, 3) := by decide +kernel
theorem dX11_readAll_51 : decode cX11_readAll 51 = .ok (.aload_n 0, 1) := by decide +kernel
theorem dX11_readAll_52 : decode cX11_readAll 52 = .ok (.getfield 95, 3) := by decide +kernel
theorem dX11_readAll_55 : decode cX11_readAll 55 = .ok (.if_icmp .ne 52, 3) := by decide +kernel
theorem dX11_readAll_58 : decode cX11_readAll 58 = .ok (.iload_n 1, 1) := by decide +kernel
theorem dX11_readAll_59 : decode cX11_readAll 59 = .ok (.ifCond .ne 42, 3) := by decide +kernel
theorem dX11_readAll_101 : decode cX11_readAll 101 = .ok (.iload_n 2, 1) := by decide +kernel
theorem dX11_readAll_102 : decode cX11_readAll 102 = .ok (.goto 4, 3) := by decide +kernel
theorem dX11_readAll_106 : decode cX11_readAll 106 = .ok (.ireturn, 1) := by decide +kernel
theorem dX11_readAll_107 : decode cX11_readAll 107 = .ok (.aload_n 0, 1) := by decide +kernel
theorem dX11_readAll_108 : decode cX11_readAll 108 = .ok (.bipush 59, 2) := by decide +kernel
theorem dX11_readAll_110 : decode cX11_readAll 110 = .ok (.bipush 59, 2) := by decide +kernel
theorem dX11_readAll_112 : decode cX11_readAll 112 = .ok (.invokevirtual 98, 3) := by decide +kernel
theorem dX11_readAll_115 : decode cX11_readAll 115 = .ok (.ifCond .ne 5, 3) := by decide +kernel
theorem dX11_readAll_118 : decode cX11_readAll 118 = .ok (.iconst (-1), 1) := by decide +kernel
theorem dX11_readAll_119 : decode cX11_readAll 119 = .ok (.ireturn, 1) := by decide +kernel
theorem dX11_readAll_120 : decode cX11_readAll 120 = .ok (.aload_n 0, 1) := by decide +kernel
theorem dX11_readAll_121 : decode cX11_readAll 121 = .ok (.dup, 1) := by decide +kernel
theorem dX11_readAll_122 : decode cX11_readAll 122 = .ok (.getfield 92, 3) := by decide +kernel
theorem dX11_readAll_125 : decode cX11_readAll 125 = .ok (.iconst 1, 1) := by decide +kernel
theorem dX11_readAll_126 : decode cX11_readAll 126 = .ok (.iadd, 1) := by decide +kernel
theorem dX11_readAll_127 : decode cX11_readAll 127 = .ok (.putfield 92, 3) := by decide +kernel
theorem dX11_readAll_130 : decode cX11_readAll 130 = .ok (.iinc 2 1, 3) := by decide +kernel
theorem dX11_readAll_133 : decode cX11_readAll 133 = .ok (.goto (-113), 3) := by decide +kernel
set_option maxHeartbeats 2000000 in
set_option maxRecDepth 20000 in
theorem ct_readAll1 {l : Launch} {E : Ev} {P : Value → AH → Prop} {o : Nat} {ad : Nat → Nat} {F : Nat → Int32} {A : Nat → Nat → Int32} {h : AH} (I : mI o ad) {e : Nat} (he : F 15 = nI e) (he4 : e ≤ 400) (hp : P (.int (rallS rtermS (fun _ => True) e (e + 1) A 0 1).1) (mh E o ad (pF (rG F) (rallS rtermS (fun _ => True) e (e + 1) A 0 1).2.1 (rallS rtermS (fun _ => True) e (e + 1) A 0 1).2.2.1) (rallS rtermS (fun _ => True) e (e + 1) A 0 1).2.2.2 h)) : Mt l E yX11_readAll cX11_readAll 3 (some .int) 6 128 0 0 [.ref o, .int 1] (mh E o ad F A h) P := by
  refine Mt.of (by decide) (Nat.le_of_ble_eq_true rfl) ?_
  intro K hK hR C
  obtain ⟨b0, hb0⟩ := nI_ex (F 18)
  have he9 : rG F 17 = nI e := he
  refine g_aload_n (n := 1) C dX11_readAll_0 rfl rfl ?_
  refine g_aload_n (n := 2) C dX11_readAll_1 rfl rfl ?_
  refine m_get (n := 5) 15 C dX11_readAll_2 rfl (by decide) rfl w_1115 rfl ?_
  refine m_put (n := 8) 17 C dX11_readAll_5 rfl (by decide) w_1117 rfl rfl rfl mfs_17 ?_
  refine g_aload_n (n := 9) C dX11_readAll_8 rfl rfl ?_
  refine g_iconst (n := 10) (v := 0) C dX11_readAll_9 rfl (by decide) ?_
  refine m_put (n := 13) 15 C dX11_readAll_10 rfl (by decide) w_1115 rfl rfl rfl mfs_15 ?_
  refine g_aload_n (n := 14) C dX11_readAll_13 rfl rfl ?_
  refine g_iconst (n := 15) (v := 0) C dX11_readAll_14 rfl (by decide) ?_
  refine m_put (n := 18) 16 C dX11_readAll_15 rfl (by decide) w_1116 rfl rfl rfl mfs_16 ?_
  rw [show upd (upd (upd F 17 (F 15)) 15 0) 16 0 = pF (rG F) 0 b0 from pF_mk hb0]
  refine g_iconst (n := 19) (v := 1) C dX11_readAll_18 rfl (by decide) ?_
  refine g_istore_n (n := 20) C dX11_readAll_19 rfl (by decide) ?_
  have lp : ∀ p : Nat, p ≤ e → ∀ (B : Nat → Nat → Int32) (q b : Nat) (t : Int32), p ≤ q → q ≤ e → rallS rtermS (fun _ => True) e (e + 1 - p) B q (p + 1) = (rallS rtermS (fun _ => True) e (e + 1) A 0 1) → t = nI (p + 1) → G K E 3 (QM K E (some .int) 0 0 P) 0 0 20 [(0, .ref o), (1, .int 1), (2, .int t)] [] (mh E o ad (pF (rG F) (q) (b)) B h) := by
    refine loopN (fun p => ∀ (B : Nat → Nat → Int32) (q b : Nat) (t : Int32), p ≤ q → q ≤ e → rallS rtermS (fun _ => True) e (e + 1 - p) B q (p + 1) = (rallS rtermS (fun _ => True) e (e + 1) A 0 1) → t = nI (p + 1) → G K E 3 (QM K E (some .int) 0 0 P) 0 0 20 [(0, .ref o), (1, .int 1), (2, .int t)] [] (mh E o ad (pF (rG F) (q) (b)) B h)) (e) ?_
    intro p hlep ihp B q b t hpq hqe er et
    subst et
    rw [show e + 1 - p = (e - p) + 1 from by omega] at er
    refine g_iload_n (n := 21) C dX11_readAll_20 rfl rfl ?_
    refine g_if_eq (n := 24) (t := 34) C dX11_readAll_21 rfl (by decide) (fun zc21 => ?_) (fun zc21 => ?_)
    · exact absurd zc21 (by decide)
    refine g_aload_n (n := 25) C dX11_readAll_24 rfl rfl ?_
    refine g_callV (n := 28) (As := []) C dX11_readAll_25 rfl mw_X11_readTerm w_1214 (g_recv C mh_o rfl) rfl rfl (room hR rfl) (ct_readTerm I he9 hqe he4 ?_)
    refine g_if_ne (n := 31) (t := 43) C dX11_readAll_28 rfl (by decide) (fun zc28 => ?_) (fun zc28 => ?_)
    · --t28
      refine g_aload_n (n := 44) C dX11_readAll_43 rfl rfl ?_
      refine g_callV (n := 47) (As := []) C dX11_readAll_44 rfl mw_X11_blanks w_1222 (g_recv C mh_o rfl) rfl rfl (room hR rfl) (ct_blanks I he9 (rterm_le hqe) he4 ?_)
      refine g_aload_n (n := 48) C dX11_readAll_47 rfl rfl ?_
      refine m_get (n := 51) 16 C dX11_readAll_48 rfl (by decide) rfl w_1116 rfl ?_
      refine g_aload_n (n := 52) C dX11_readAll_51 rfl rfl ?_
      refine m_get (n := 55) 17 C dX11_readAll_52 rfl (by decide) rfl w_1117 rfl ?_
      refine g_icmp_ne (n := 58) (t := 107) C dX11_readAll_55 rfl (by decide) (fun zc55 => ?_) (fun zc55 => ?_)
      · --t55
        have zb55 : ¬ (rbl (rtermS B e q).2.2.2 e (rtermS B e q).2.1) = e := fun zq => zc55 (by rw [show pF (rG F) (rbl (rtermS B e q).2.2.2 e (rtermS B e q).2.1) (rbl (rtermS B e q).2.2.2 e (rtermS B e q).2.1) 16 = nI (rbl (rtermS B e q).2.2.2 e (rtermS B e q).2.1) from rfl, zq]; exact he9.symm)
        refine g_aload_n (n := 108) C dX11_readAll_107 rfl rfl ?_
        refine g_bipush (n := 110) (v := 59) C dX11_readAll_108 rfl (by decide) ?_
        refine g_bipush (n := 112) (v := 59) C dX11_readAll_110 rfl (by decide) ?_
        refine g_callV (n := 115) (As := [.int _, .int _]) C dX11_readAll_112 rfl mw_X11_isAt w_1226 (g_recv C mh_o rfl) rfl rfl (room hR rfl) (ct_isAt I (q := (rbl (rtermS B e q).2.2.2 e (rtermS B e q).2.1)) he9 (rsc_le (rterm_le hqe)) he4 (fun za112 => ?_) (fun zb112 => ?_))
        · --k112.0
          refine g_if_ne (n := 118) (t := 120) C dX11_readAll_115 rfl (by decide) (fun zc115 => ?_) (fun zc115 => ?_)
          rotate_left
          · exact absurd zc115 (by decide)
          refine g_aload_n (n := 121) C dX11_readAll_120 rfl rfl ?_
          refine g_dup (n := 122) C dX11_readAll_121 rfl rfl ?_
          refine m_get (n := 125) 16 C dX11_readAll_122 rfl (by decide) rfl w_1116 rfl ?_
          refine g_iconst (n := 126) (v := 1) C dX11_readAll_125 rfl (by decide) ?_
          refine g_iadd (n := 127) C dX11_readAll_126 rfl ?_
          refine m_put (n := 130) 16 C dX11_readAll_127 rfl (by decide) w_1116 rfl rfl rfl mfs_16 ?_
          rw [pF_inc]
          refine g_iinc (n := 133) C dX11_readAll_130 rfl rfl rfl (by decide) ?_
          refine g_goto (t := 20) C dX11_readAll_133 (by decide) ?_
          exact g_lv [0, 1, 2] rfl (ihp (by have := za112.1; have := rterm_ge (A := B) (e := e) (q := q); have h9 : (rtermS B e q).2.1 ≤ (rbl (rtermS B e q).2.2.2 e (rtermS B e q).2.1) := rsc_ge _ _ _ _ _; omega) _ _ _ _ (by have := rterm_ge (A := B) (e := e) (q := q); have h9 : (rtermS B e q).2.1 ≤ (rbl (rtermS B e q).2.2.2 e (rtermS B e q).2.1) := rsc_ge _ _ _ _ _; omega) za112.1 (by rw [show e + 1 - (p + 1) = e - p from by omega]; exact rall_s er zc28 zb55 za112) (nI_1 _))
        · --k112.1
          refine g_if_ne (n := 118) (t := 120) C dX11_readAll_115 rfl (by decide) (fun zc115 => ?_) (fun zc115 => ?_)
          · exact absurd zc115 (by decide)
          refine g_iconst (n := 119) (v := (-1)) C dX11_readAll_118 rfl (by decide) ?_
          refine g_iret C dX11_readAll_119 (by decide) (by decide) ?_
          rw [rall_x er zc28 zb55 zb112] at hp
          exact hp
      · --f55
        have ee : (rbl (rtermS B e q).2.2.2 e (rtermS B e q).2.1) = e := nI_inj9 (by have h9 : (rbl (rtermS B e q).2.2.2 e (rtermS B e q).2.1) ≤ e := rsc_le (rterm_le hqe); omega) (by omega) (zc55.trans he9)
        refine g_iload_n (n := 59) C dX11_readAll_58 rfl rfl ?_
        refine g_if_ne (n := 62) (t := 101) C dX11_readAll_59 rfl (by decide) (fun zc59 => ?_) (fun zc59 => ?_)
        rotate_left
        · exact absurd zc59 (by decide)
        refine g_iload_n (n := 102) C dX11_readAll_101 rfl rfl ?_
        refine g_goto (t := 106) C dX11_readAll_102 (by decide) ?_
        refine g_iret C dX11_readAll_106 (by decide) (by decide) ?_
        rw [(rall_e er zc28 ee).1 trivial] at hp
        rw [ee]
        exact hp
    · --f28
      refine g_goto (t := 41) C dX11_readAll_31 (by decide) ?_
      refine g_iconst (n := 42) (v := (-1)) C dX11_readAll_41 rfl (by decide) ?_
      refine g_iret C dX11_readAll_42 (by decide) (by decide) ?_
      rw [rall_n er zc28] at hp
      exact hp
  exact g_lv [0, 1, 2] rfl (lp 0 (Nat.zero_le _) _ _ _ _ (Nat.le_refl _) (Nat.zero_le _) rfl rfl)
theorem dX11_readAll_34 : decode cX11_readAll 34 = .ok (.aload_n 0, 1) := by decide +kernel
theorem dX11_readAll_35 : decode cX11_readAll 35 = .ok (.invokevirtual 155, 3) := by decide +kernel
theorem dX11_readAll_38 : decode cX11_readAll 38 = .ok (.ifCond .ne 5, 3) := by decide +kernel
theorem dX11_readAll_62 : decode cX11_readAll 62 = .ok (.aload_n 0, 1) := by decide +kernel
theorem dX11_readAll_63 : decode cX11_readAll 63 = .ok (.getfield 38, 3) := by decide +kernel
theorem dX11_readAll_66 : decode cX11_readAll 66 = .ok (.iconst 1, 1) := by decide +kernel
theorem dX11_readAll_67 : decode cX11_readAll 67 = .ok (.iaload, 1) := by decide +kernel
theorem dX11_readAll_68 : decode cX11_readAll 68 = .ok (.aload_n 0, 1) := by decide +kernel
theorem dX11_readAll_69 : decode cX11_readAll 69 = .ok (.getfield 38, 3) := by decide +kernel
theorem dX11_readAll_72 : decode cX11_readAll 72 = .ok (.iconst 2, 1) := by decide +kernel
theorem dX11_readAll_73 : decode cX11_readAll 73 = .ok (.iaload, 1) := by decide +kernel
theorem dX11_readAll_74 : decode cX11_readAll 74 = .ok (.iadd, 1) := by decide +kernel
theorem dX11_readAll_75 : decode cX11_readAll 75 = .ok (.aload_n 0, 1) := by decide +kernel
theorem dX11_readAll_76 : decode cX11_readAll 76 = .ok (.getfield 38, 3) := by decide +kernel
theorem dX11_readAll_79 : decode cX11_readAll 79 = .ok (.iconst 3, 1) := by decide +kernel
theorem dX11_readAll_80 : decode cX11_readAll 80 = .ok (.iaload, 1) := by decide +kernel
theorem dX11_readAll_81 : decode cX11_readAll 81 = .ok (.iadd, 1) := by decide +kernel
theorem dX11_readAll_82 : decode cX11_readAll 82 = .ok (.aload_n 0, 1) := by decide +kernel
theorem dX11_readAll_83 : decode cX11_readAll 83 = .ok (.getfield 38, 3) := by decide +kernel
theorem dX11_readAll_86 : decode cX11_readAll 86 = .ok (.iconst 4, 1) := by decide +kernel
theorem dX11_readAll_87 : decode cX11_readAll 87 = .ok (.iaload, 1) := by decide +kernel
theorem dX11_readAll_88 : decode cX11_readAll 88 = .ok (.iadd, 1) := by decide +kernel
theorem dX11_readAll_89 : decode cX11_readAll 89 = .ok (.aload_n 0, 1) := by decide +kernel
theorem dX11_readAll_90 : decode cX11_readAll 90 = .ok (.getfield 38, 3) := by decide +kernel
theorem dX11_readAll_93 : decode cX11_readAll 93 = .ok (.iconst 5, 1) := by decide +kernel
theorem dX11_readAll_94 : decode cX11_readAll 94 = .ok (.iaload, 1) := by decide +kernel
theorem dX11_readAll_95 : decode cX11_readAll 95 = .ok (.iadd, 1) := by decide +kernel
theorem dX11_readAll_96 : decode cX11_readAll 96 = .ok (.bipush 100, 2) := by decide +kernel
theorem dX11_readAll_98 : decode cX11_readAll 98 = .ok (.if_icmp .gt 7, 3) := by decide +kernel
theorem dX11_readAll_105 : decode cX11_readAll 105 = .ok (.iconst (-1), 1) := by decide +kernel
set_option maxHeartbeats 2000000 in
set_option maxRecDepth 20000 in
theorem ct_readAll0 {l : Launch} {E : Ev} {P : Value → AH → Prop} {o : Nat} {ad : Nat → Nat} {F : Nat → Int32} {A : Nat → Nat → Int32} {h : AH} (I : mI o ad) {e : Nat} (he : F 15 = nI e) (he4 : e ≤ 400) (hp : P (.int (rallS rpartS rfin e (e + 1) A 0 1).1) (mh E o ad (pF (rG F) (rallS rpartS rfin e (e + 1) A 0 1).2.1 (rallS rpartS rfin e (e + 1) A 0 1).2.2.1) (rallS rpartS rfin e (e + 1) A 0 1).2.2.2 h)) : Mt l E yX11_readAll cX11_readAll 3 (some .int) 6 128 0 0 [.ref o, .int 0] (mh E o ad F A h) P := by
  refine Mt.of (by decide) (Nat.le_of_ble_eq_true rfl) ?_
  intro K hK hR C
  obtain ⟨b0, hb0⟩ := nI_ex (F 18)
  have he9 : rG F 17 = nI e := he
  refine g_aload_n (n := 1) C dX11_readAll_0 rfl rfl ?_
  refine g_aload_n (n := 2) C dX11_readAll_1 rfl rfl ?_
  refine m_get (n := 5) 15 C dX11_readAll_2 rfl (by decide) rfl w_1115 rfl ?_
  refine m_put (n := 8) 17 C dX11_readAll_5 rfl (by decide) w_1117 rfl rfl rfl mfs_17 ?_
  refine g_aload_n (n := 9) C dX11_readAll_8 rfl rfl ?_
  refine g_iconst (n := 10) (v := 0) C dX11_readAll_9 rfl (by decide) ?_
  refine m_put (n := 13) 15 C dX11_readAll_10 rfl (by decide) w_1115 rfl rfl rfl mfs_15 ?_
  refine g_aload_n (n := 14) C dX11_readAll_13 rfl rfl ?_
  refine g_iconst (n := 15) (v := 0) C dX11_readAll_14 rfl (by decide) ?_
  refine m_put (n := 18) 16 C dX11_readAll_15 rfl (by decide) w_1116 rfl rfl rfl mfs_16 ?_
  rw [show upd (upd (upd F 17 (F 15)) 15 0) 16 0 = pF (rG F) 0 b0 from pF_mk hb0]
  refine g_iconst (n := 19) (v := 1) C dX11_readAll_18 rfl (by decide) ?_
  refine g_istore_n (n := 20) C dX11_readAll_19 rfl (by decide) ?_
  have lp : ∀ p : Nat, p ≤ e → ∀ (B : Nat → Nat → Int32) (q b : Nat) (t : Int32), p ≤ q → q ≤ e → rallS rpartS rfin e (e + 1 - p) B q (p + 1) = (rallS rpartS rfin e (e + 1) A 0 1) → t = nI (p + 1) → G K E 3 (QM K E (some .int) 0 0 P) 0 0 20 [(0, .ref o), (1, .int 0), (2, .int t)] [] (mh E o ad (pF (rG F) (q) (b)) B h) := by
    refine loopN (fun p => ∀ (B : Nat → Nat → Int32) (q b : Nat) (t : Int32), p ≤ q → q ≤ e → rallS rpartS rfin e (e + 1 - p) B q (p + 1) = (rallS rpartS rfin e (e + 1) A 0 1) → t = nI (p + 1) → G K E 3 (QM K E (some .int) 0 0 P) 0 0 20 [(0, .ref o), (1, .int 0), (2, .int t)] [] (mh E o ad (pF (rG F) (q) (b)) B h)) (e) ?_
    intro p hlep ihp B q b t hpq hqe er et
    subst et
    rw [show e + 1 - p = (e - p) + 1 from by omega] at er
    refine g_iload_n (n := 21) C dX11_readAll_20 rfl rfl ?_
    refine g_if_eq (n := 24) (t := 34) C dX11_readAll_21 rfl (by decide) (fun zc21 => ?_) (fun zc21 => ?_)
    rotate_left
    · exact absurd zc21 (by decide)
    refine g_aload_n (n := 35) C dX11_readAll_34 rfl rfl ?_
    refine g_callV (n := 38) (As := []) C dX11_readAll_35 rfl mw_X11_readPart w_1244 (g_recv C mh_o rfl) rfl rfl (room hR rfl) (ct_readPart I he9 hqe he4 ?_)
    refine g_if_ne (n := 41) (t := 43) C dX11_readAll_38 rfl (by decide) (fun zc38 => ?_) (fun zc38 => ?_)
    · --t38
      refine g_aload_n (n := 44) C dX11_readAll_43 rfl rfl ?_
      refine g_callV (n := 47) (As := []) C dX11_readAll_44 rfl mw_X11_blanks w_1222 (g_recv C mh_o rfl) rfl rfl (room hR rfl) (ct_blanks I he9 (rpart_le hqe) he4 ?_)
      refine g_aload_n (n := 48) C dX11_readAll_47 rfl rfl ?_
      refine m_get (n := 51) 16 C dX11_readAll_48 rfl (by decide) rfl w_1116 rfl ?_
      refine g_aload_n (n := 52) C dX11_readAll_51 rfl rfl ?_
      refine m_get (n := 55) 17 C dX11_readAll_52 rfl (by decide) rfl w_1117 rfl ?_
      refine g_icmp_ne (n := 58) (t := 107) C dX11_readAll_55 rfl (by decide) (fun zc55 => ?_) (fun zc55 => ?_)
      · --t55
        have zb55 : ¬ (rbl (rpartS B e q).2.2.2 e (rpartS B e q).2.1) = e := fun zq => zc55 (by rw [show pF (rG F) (rbl (rpartS B e q).2.2.2 e (rpartS B e q).2.1) (rbl (rpartS B e q).2.2.2 e (rpartS B e q).2.1) 16 = nI (rbl (rpartS B e q).2.2.2 e (rpartS B e q).2.1) from rfl, zq]; exact he9.symm)
        refine g_aload_n (n := 108) C dX11_readAll_107 rfl rfl ?_
        refine g_bipush (n := 110) (v := 59) C dX11_readAll_108 rfl (by decide) ?_
        refine g_bipush (n := 112) (v := 59) C dX11_readAll_110 rfl (by decide) ?_
        refine g_callV (n := 115) (As := [.int _, .int _]) C dX11_readAll_112 rfl mw_X11_isAt w_1226 (g_recv C mh_o rfl) rfl rfl (room hR rfl) (ct_isAt I (q := (rbl (rpartS B e q).2.2.2 e (rpartS B e q).2.1)) he9 (rsc_le (rpart_le hqe)) he4 (fun za112 => ?_) (fun zb112 => ?_))
        · --k112.0
          refine g_if_ne (n := 118) (t := 120) C dX11_readAll_115 rfl (by decide) (fun zc115 => ?_) (fun zc115 => ?_)
          rotate_left
          · exact absurd zc115 (by decide)
          refine g_aload_n (n := 121) C dX11_readAll_120 rfl rfl ?_
          refine g_dup (n := 122) C dX11_readAll_121 rfl rfl ?_
          refine m_get (n := 125) 16 C dX11_readAll_122 rfl (by decide) rfl w_1116 rfl ?_
          refine g_iconst (n := 126) (v := 1) C dX11_readAll_125 rfl (by decide) ?_
          refine g_iadd (n := 127) C dX11_readAll_126 rfl ?_
          refine m_put (n := 130) 16 C dX11_readAll_127 rfl (by decide) w_1116 rfl rfl rfl mfs_16 ?_
          rw [pF_inc]
          refine g_iinc (n := 133) C dX11_readAll_130 rfl rfl rfl (by decide) ?_
          refine g_goto (t := 20) C dX11_readAll_133 (by decide) ?_
          exact g_lv [0, 1, 2] rfl (ihp (by have := za112.1; have := rpart_ge (A := B) (e := e) (q := q); have h9 : (rpartS B e q).2.1 ≤ (rbl (rpartS B e q).2.2.2 e (rpartS B e q).2.1) := rsc_ge _ _ _ _ _; omega) _ _ _ _ (by have := rpart_ge (A := B) (e := e) (q := q); have h9 : (rpartS B e q).2.1 ≤ (rbl (rpartS B e q).2.2.2 e (rpartS B e q).2.1) := rsc_ge _ _ _ _ _; omega) za112.1 (by rw [show e + 1 - (p + 1) = e - p from by omega]; exact rall_s er zc38 zb55 za112) (nI_1 _))
        · --k112.1
          refine g_if_ne (n := 118) (t := 120) C dX11_readAll_115 rfl (by decide) (fun zc115 => ?_) (fun zc115 => ?_)
          · exact absurd zc115 (by decide)
          refine g_iconst (n := 119) (v := (-1)) C dX11_readAll_118 rfl (by decide) ?_
          refine g_iret C dX11_readAll_119 (by decide) (by decide) ?_
          rw [rall_x er zc38 zb55 zb112] at hp
          exact hp
      · --f55
        have ee : (rbl (rpartS B e q).2.2.2 e (rpartS B e q).2.1) = e := nI_inj9 (by have h9 : (rbl (rpartS B e q).2.2.2 e (rpartS B e q).2.1) ≤ e := rsc_le (rpart_le hqe); omega) (by omega) (zc55.trans he9)
        refine g_iload_n (n := 59) C dX11_readAll_58 rfl rfl ?_
        refine g_if_ne (n := 62) (t := 101) C dX11_readAll_59 rfl (by decide) (fun zc59 => ?_) (fun zc59 => ?_)
        · exact absurd zc59 (by decide)
        refine g_aload_n (n := 63) C dX11_readAll_62 rfl rfl ?_
        refine m_get (n := 66) 12 C dX11_readAll_63 rfl (by decide) rfl w_1112 rfl ?_
        refine g_iconst (n := 67) (v := 1) C dX11_readAll_66 rfl (by decide) ?_
        refine m_iald (n := 68) 12 (1) C dX11_readAll_67 rfl I (by decide) rfl rfl (by decide) (by decide) rfl ?_
        refine g_aload_n (n := 69) C dX11_readAll_68 rfl rfl ?_
        refine m_get (n := 72) 12 C dX11_readAll_69 rfl (by decide) rfl w_1112 rfl ?_
        refine g_iconst (n := 73) (v := 2) C dX11_readAll_72 rfl (by decide) ?_
        refine m_iald (n := 74) 12 (2) C dX11_readAll_73 rfl I (by decide) rfl rfl (by decide) (by decide) rfl ?_
        refine g_iadd (n := 75) C dX11_readAll_74 rfl ?_
        refine g_aload_n (n := 76) C dX11_readAll_75 rfl rfl ?_
        refine m_get (n := 79) 12 C dX11_readAll_76 rfl (by decide) rfl w_1112 rfl ?_
        refine g_iconst (n := 80) (v := 3) C dX11_readAll_79 rfl (by decide) ?_
        refine m_iald (n := 81) 12 (3) C dX11_readAll_80 rfl I (by decide) rfl rfl (by decide) (by decide) rfl ?_
        refine g_iadd (n := 82) C dX11_readAll_81 rfl ?_
        refine g_aload_n (n := 83) C dX11_readAll_82 rfl rfl ?_
        refine m_get (n := 86) 12 C dX11_readAll_83 rfl (by decide) rfl w_1112 rfl ?_
        refine g_iconst (n := 87) (v := 4) C dX11_readAll_86 rfl (by decide) ?_
        refine m_iald (n := 88) 12 (4) C dX11_readAll_87 rfl I (by decide) rfl rfl (by decide) (by decide) rfl ?_
        refine g_iadd (n := 89) C dX11_readAll_88 rfl ?_
        refine g_aload_n (n := 90) C dX11_readAll_89 rfl rfl ?_
        refine m_get (n := 93) 12 C dX11_readAll_90 rfl (by decide) rfl w_1112 rfl ?_
        refine g_iconst (n := 94) (v := 5) C dX11_readAll_93 rfl (by decide) ?_
        refine m_iald (n := 95) 12 (5) C dX11_readAll_94 rfl I (by decide) rfl rfl (by decide) (by decide) rfl ?_
        refine g_iadd (n := 96) C dX11_readAll_95 rfl ?_
        refine g_bipush (n := 98) (v := 100) C dX11_readAll_96 rfl (by decide) ?_
        refine g_icmp_gt (n := 101) (t := 105) C dX11_readAll_98 rfl (by decide) (fun zc98 => ?_) (fun zc98 => ?_)
        · --t98
          refine g_iconst (n := 106) (v := (-1)) C dX11_readAll_105 rfl (by decide) ?_
          refine g_iret C dX11_readAll_106 (by decide) (by decide) ?_
          rw [(rall_e er zc38 ee).2 (fun zq => Int32.not_le.mpr zc98 zq)] at hp
          rw [ee]
          exact hp
        · --f98
          refine g_iload_n (n := 102) C dX11_readAll_101 rfl rfl ?_
          refine g_goto (t := 106) C dX11_readAll_102 (by decide) ?_
          refine g_iret C dX11_readAll_106 (by decide) (by decide) ?_
          rw [(rall_e er zc38 ee).1 (Int32.not_lt.mp zc98)] at hp
          rw [ee]
          exact hp
    · --f38
      refine g_iconst (n := 42) (v := (-1)) C dX11_readAll_41 rfl (by decide) ?_
      refine g_iret C dX11_readAll_42 (by decide) (by decide) ?_
      rw [rall_n er zc38] at hp
      exact hp
  exact g_lv [0, 1, 2] rfl (lp 0 (Nat.zero_le _) _ _ _ _ (Nat.le_refl _) (Nat.zero_le _) rfl rfl)
