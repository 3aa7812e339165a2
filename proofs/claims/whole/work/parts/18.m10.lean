/-! the reference's words, terms, parts and texts -/
/-- the letters b to r are word i -/
def rwd (T : Nat → Int32) (b r i : Nat) : Prop := r - b = SLEN.getD i 0 ∧ ∀ k, k < SLEN.getD i 0 → T (b + k) = sbt i k
def wst (T : Nat → Int32) (b r i p : Nat) (z : Int32) : Prop := (z = 1 ∧ r - b = SLEN.getD i 0 ∧ ∀ k, k < p → T (b + k) = sbt i k) ∨ (z = 0 ∧ ¬ rwd T b r i)
theorem nI_inj9 {a b : Nat} (ha : a < 2147483648) (hb : b < 2147483648) (h : nI a = nI b) : a = b := by
  have := congrArg Int32.toNatClampNeg h
  rw [nI_clamp (by omega), nI_clamp (by omega)] at this
  exact this
theorem wst_1 {T : Nat → Int32} {b r i : Nat} (hi : i < 11) (hbr : b ≤ r) (hr : r ≤ 400) (h : nI r - nI b = nI (SLEN.getD i 0)) : wst T b r i 0 1 := by
  have h8 := slen_8 i hi
  rw [pk_sub hbr] at h
  exact Or.inl ⟨rfl, nI_inj9 (by omega) (by omega) h, fun _ q => absurd q (Nat.not_lt_zero _)⟩
theorem wst_0 {T : Nat → Int32} {b r i : Nat} (hbr : b ≤ r) (h : ¬ nI r - nI b = nI (SLEN.getD i 0)) : wst T b r i 0 0 := Or.inr ⟨rfl, fun q => h (by rw [pk_sub hbr, q.1])⟩
theorem wst_s {T : Nat → Int32} {b r i p : Nat} {z : Int32} (w : wst T b r i p z) (hz : ¬ z = 0) (h : T (b + p) = sbt i p) : wst T b r i (p + 1) 1 := by
  rcases w with ⟨-, w1, w2⟩ | ⟨w, -⟩
  · refine Or.inl ⟨rfl, w1, fun k hk => ?_⟩
    by_cases e : k = p
    · rw [e, h]
    · exact w2 k (by omega)
  · exact absurd w hz
theorem wst_n {T : Nat → Int32} {b r i p : Nat} (hp : p < SLEN.getD i 0) (h : ¬ T (b + p) = sbt i p) : wst T b r i (p + 1) 0 := Or.inr ⟨rfl, fun q => h (q.2 p hp)⟩
theorem wst_len {T : Nat → Int32} {b r i p : Nat} {z : Int32} (w : wst T b r i p z) (hz : ¬ z = 0) : r - b = SLEN.getD i 0 := by
  rcases w with ⟨-, w1, w2⟩ | ⟨w, -⟩
  · exact w1
  · exact absurd w hz
theorem dX11_isWord_0 : decode cX11_isWord 0 = .ok (.aload_n 0, 1) := by decide +kernel
theorem dX11_isWord_1 : decode cX11_isWord 1 = .ok (.getfield 92, 3) := by decide +kernel
theorem dX11_isWord_4 : decode cX11_isWord 4 = .ok (.aload_n 0, 1) := by decide +kernel
theorem dX11_isWord_5 : decode cX11_isWord 5 = .ok (.getfield 102, 3) := by decide +kernel
theorem dX11_isWord_8 : decode cX11_isWord 8 = .ok (.isub, 1) := by decide +kernel
theorem dX11_isWord_9 : decode cX11_isWord 9 = .ok (.aload_n 1, 1) := by decide +kernel
theorem dX11_isWord_10 : decode cX11_isWord 10 = .ok (.invokevirtual 108, 3) := by decide +kernel
theorem dX11_isWord_13 : decode cX11_isWord 13 = .ok (.if_icmp .ne 7, 3) := by decide +kernel
theorem dX11_isWord_16 : decode cX11_isWord 16 = .ok (.iconst 1, 1) := by decide +kernel
theorem dX11_isWord_17 : decode cX11_isWord 17 = .ok (.goto 4, 3) := by decide +kernel
theorem dX11_isWord_20 : decode cX11_isWord 20 = .ok (.iconst 0, 1) := by decide +kernel
theorem dX11_isWord_21 : decode cX11_isWord 21 = .ok (.istore_n 2, 1) := by decide +kernel
theorem dX11_isWord_22 : decode cX11_isWord 22 = .ok (.iconst 0, 1) := by decide +kernel
theorem dX11_isWord_23 : decode cX11_isWord 23 = .ok (.istore_n 3, 1) := by decide +kernel
theorem dX11_isWord_24 : decode cX11_isWord 24 = .ok (.iload_n 2, 1) := by decide +kernel
theorem dX11_isWord_25 : decode cX11_isWord 25 = .ok (.ifCond .eq 42, 3) := by decide +kernel
theorem dX11_isWord_28 : decode cX11_isWord 28 = .ok (.iload_n 3, 1) := by decide +kernel
theorem dX11_isWord_29 : decode cX11_isWord 29 = .ok (.aload_n 1, 1) := by decide +kernel
theorem dX11_isWord_30 : decode cX11_isWord 30 = .ok (.invokevirtual 108, 3) := by decide +kernel
theorem dX11_isWord_33 : decode cX11_isWord 33 = .ok (.if_icmp .ge 34, 3) := by decide +kernel
theorem dX11_isWord_36 : decode cX11_isWord 36 = .ok (.aload_n 0, 1) := by decide +kernel
theorem dX11_isWord_37 : decode cX11_isWord 37 = .ok (.getfield 41, 3) := by decide +kernel
theorem dX11_isWord_40 : decode cX11_isWord 40 = .ok (.aload_n 0, 1) := by decide +kernel
theorem dX11_isWord_41 : decode cX11_isWord 41 = .ok (.getfield 102, 3) := by decide +kernel
theorem dX11_isWord_44 : decode cX11_isWord 44 = .ok (.iload_n 3, 1) := by decide +kernel
theorem dX11_isWord_45 : decode cX11_isWord 45 = .ok (.iadd, 1) := by decide +kernel
theorem dX11_isWord_46 : decode cX11_isWord 46 = .ok (.baload, 1) := by decide +kernel
theorem dX11_isWord_47 : decode cX11_isWord 47 = .ok (.aload_n 1, 1) := by decide +kernel
theorem dX11_isWord_48 : decode cX11_isWord 48 = .ok (.iload_n 3, 1) := by decide +kernel
theorem dX11_isWord_49 : decode cX11_isWord 49 = .ok (.invokevirtual 114, 3) := by decide +kernel
theorem dX11_isWord_52 : decode cX11_isWord 52 = .ok (.if_icmp .ne 7, 3) := by decide +kernel
theorem dX11_isWord_55 : decode cX11_isWord 55 = .ok (.iconst 1, 1) := by decide +kernel
theorem dX11_isWord_56 : decode cX11_isWord 56 = .ok (.goto 4, 3) := by decide +kernel
theorem dX11_isWord_59 : decode cX11_isWord 59 = .ok (.iconst 0, 1) := by decide +kernel
theorem dX11_isWord_60 : decode cX11_isWord 60 = .ok (.istore_n 2, 1) := by decide +kernel
theorem dX11_isWord_61 : decode cX11_isWord 61 = .ok (.iinc 3 1, 3) := by decide +kernel
theorem dX11_isWord_64 : decode cX11_isWord 64 = .ok (.goto (-40), 3) := by decide +kernel
theorem dX11_isWord_67 : decode cX11_isWord 67 = .ok (.iload_n 2, 1) := by decide +kernel
theorem dX11_isWord_68 : decode cX11_isWord 68 = .ok (.ireturn, 1) := by decide +kernel
set_option maxHeartbeats 1000000 in
set_option maxRecDepth 20000 in
theorem ct_isWord {l : Launch} {E : Ev} {P : Value → AH → Prop} {o : Nat} {ad : Nat → Nat} {F : Nat → Int32} {A : Nat → Nat → Int32} {h : AH} (I : mI o ad) {b r e : Nat} (he : F 17 = nI e) (hbr : b ≤ r) (hre : r ≤ e) (he4 : e ≤ 400) {i : Nat} (hi : i < 11) (k1 : rwd (A 14) b r i → P (.int 1) (mh E o ad (pF F (r) (b)) A h)) (k0 : ¬ rwd (A 14) b r i → P (.int 0) (mh E o ad (pF F (r) (b)) A h)) : Mt l E yX11_isWord cX11_isWord 4 (some .boolean) 4 85 0 0 [.ref o, .ref (E.2.2 (20 + i))] (mh E o ad (pF F (r) (b)) A h) P := by
  refine Mt.of (by decide) (Nat.le_of_ble_eq_true rfl) ?_
  intro K hK hR C
  refine g_aload_n (n := 1) C dX11_isWord_0 rfl rfl ?_
  refine m_get (n := 4) 16 C dX11_isWord_1 rfl (by decide) rfl w_1116 rfl ?_
  refine g_aload_n (n := 5) C dX11_isWord_4 rfl rfl ?_
  refine m_get (n := 8) 18 C dX11_isWord_5 rfl (by decide) rfl w_1118 rfl ?_
  refine g_isub (n := 9) C dX11_isWord_8 rfl ?_
  refine g_aload_n (n := 10) C dX11_isWord_9 rfl rfl ?_
  refine g_callV (n := 13) (As := []) C dX11_isWord_10 rfl mw_J0_length_8abf5 w_1235 (g_strR C hi) rfl rfl (room hR rfl) (ct_slen hi ?_)
  refine g_icmp_ne (n := 16) (t := 20) C dX11_isWord_13 rfl (by decide) (fun zc13 => ?_) (fun zc13 => ?_)
  · --t13
    refine g_iconst (n := 21) (v := 0) C dX11_isWord_20 rfl (by decide) ?_
    refine g_istore_n (n := 22) C dX11_isWord_21 rfl (by decide) ?_
    refine g_iconst (n := 23) (v := 0) C dX11_isWord_22 rfl (by decide) ?_
    refine g_istore_n (n := 24) C dX11_isWord_23 rfl (by decide) ?_
    have lp : ∀ p : Nat, p ≤ (SLEN.getD i 0) → ∀ (z t : Int32), wst (A 14) b r i p z → t = nI p → G K E 4 (QM K E (some .boolean) 0 0 P) 0 0 24 [(0, .ref o), (1, .ref (E.2.2 (20 + i))), (2, .int z), (3, .int t)] [] (mh E o ad (pF F (r) (b)) A h) := by
      refine loopN (fun p => ∀ (z t : Int32), wst (A 14) b r i p z → t = nI p → G K E 4 (QM K E (some .boolean) 0 0 P) 0 0 24 [(0, .ref o), (1, .ref (E.2.2 (20 + i))), (2, .int z), (3, .int t)] [] (mh E o ad (pF F (r) (b)) A h)) ((SLEN.getD i 0)) ?_
      intro p hlep ihp z t ew et
      subst et
      refine g_iload_n (n := 25) C dX11_isWord_24 rfl rfl ?_
      refine g_if_eq (n := 28) (t := 67) C dX11_isWord_25 rfl (by decide) (fun zc25 => ?_) (fun zc25 => ?_)
      · --t25
        refine g_iload_n (n := 68) C dX11_isWord_67 rfl rfl ?_
        refine g_zret C dX11_isWord_68 (by decide) (by decide) (by rcases ew with ⟨e1, -⟩ | ⟨e1, -⟩ <;> rw [e1] <;> rfl) ?_
        rcases ew with ⟨e1, w1, w2⟩ | ⟨e1, w1⟩
        · first
            | exact absurd (e1.symm.trans zc25) (by decide)
            | (have ep : p = (SLEN.getD i 0) := i_eq (x := nI (SLEN.getD i 0)) rfl zc33 hlep (by have := slen_8 i hi; omega)
               rw [e1]
               exact k1 ⟨w1, by rw [← ep]; exact w2⟩)
        · rw [e1]; exact k0 w1
      · --f25
        refine g_iload_n (n := 29) C dX11_isWord_28 rfl rfl ?_
        refine g_aload_n (n := 30) C dX11_isWord_29 rfl rfl ?_
        refine g_callV (n := 33) (As := []) C dX11_isWord_30 rfl mw_J0_length_8abf5 w_1235 (g_strR C hi) rfl rfl (room hR rfl) (ct_slen hi ?_)
        refine g_icmp_ge (n := 36) (t := 67) C dX11_isWord_33 rfl (by decide) (fun zc33 => ?_) (fun zc33 => ?_)
        · --t33
          refine g_iload_n (n := 68) C dX11_isWord_67 rfl rfl ?_
          refine g_zret C dX11_isWord_68 (by decide) (by decide) (by rcases ew with ⟨e1, -⟩ | ⟨e1, -⟩ <;> rw [e1] <;> rfl) ?_
          rcases ew with ⟨e1, w1, w2⟩ | ⟨e1, w1⟩
          · first
              | exact absurd (e1.symm.trans zc25) (by decide)
              | (have ep : p = (SLEN.getD i 0) := i_eq (x := nI (SLEN.getD i 0)) rfl zc33 hlep (by have := slen_8 i hi; omega)
                 rw [e1]
                 exact k1 ⟨w1, by rw [← ep]; exact w2⟩)
          · rw [e1]; exact k0 w1
        · --f33
          refine g_aload_n (n := 37) C dX11_isWord_36 rfl rfl ?_
          refine m_get (n := 40) 14 C dX11_isWord_37 rfl (by decide) rfl w_1114 rfl ?_
          refine g_aload_n (n := 41) C dX11_isWord_40 rfl rfl ?_
          refine m_get (n := 44) 18 C dX11_isWord_41 rfl (by decide) rfl w_1118 rfl ?_
          refine g_iload_n (n := 45) C dX11_isWord_44 rfl rfl ?_
          refine g_iadd (n := 46) C dX11_isWord_45 rfl ?_
          refine m_bald (n := 47) 14 (b + p) C dX11_isWord_46 rfl I (by decide) rfl (nI_add b p) (by have := (i_lt (x := nI (SLEN.getD i 0)) rfl zc33 hlep (by have := slen_8 i hi; omega)); have := wst_len ew zc25; omega) (by decide) rfl ?_
          refine g_aload_n (n := 48) C dX11_isWord_47 rfl rfl ?_
          refine g_iload_n (n := 49) C dX11_isWord_48 rfl rfl ?_
          refine g_callV (n := 52) (As := [.int _]) C dX11_isWord_49 rfl mw_J0_charAt_5068e w_1236 (g_strR C hi) rfl rfl (room hR rfl) (ct_schar hi (i_lt (x := nI (SLEN.getD i 0)) rfl zc33 hlep (by have := slen_8 i hi; omega)) ?_)
          refine g_icmp_ne (n := 55) (t := 59) C dX11_isWord_52 rfl (by decide) (fun zc52 => ?_) (fun zc52 => ?_)
          · --t52
            refine g_iconst (n := 60) (v := 0) C dX11_isWord_59 rfl (by decide) ?_
            refine g_istore_n (n := 61) C dX11_isWord_60 rfl (by decide) ?_
            refine g_iinc (n := 64) C dX11_isWord_61 rfl rfl rfl (by decide) ?_
            refine g_goto (t := 24) C dX11_isWord_64 (by decide) ?_
            exact g_lv [0, 1, 2, 3] rfl (ihp (i_lt (x := nI (SLEN.getD i 0)) rfl zc33 hlep (by have := slen_8 i hi; omega)) _ _ (by first | exact wst_s ew zc25 zc52 | exact wst_n (i_lt (x := nI (SLEN.getD i 0)) rfl zc33 hlep (by have := slen_8 i hi; omega)) zc52) (nI_1 p))
          · --f52
            refine g_iconst (n := 56) (v := 1) C dX11_isWord_55 rfl (by decide) ?_
            refine g_goto (t := 60) C dX11_isWord_56 (by decide) ?_
            refine g_istore_n (n := 61) C dX11_isWord_60 rfl (by decide) ?_
            refine g_iinc (n := 64) C dX11_isWord_61 rfl rfl rfl (by decide) ?_
            refine g_goto (t := 24) C dX11_isWord_64 (by decide) ?_
            exact g_lv [0, 1, 2, 3] rfl (ihp (i_lt (x := nI (SLEN.getD i 0)) rfl zc33 hlep (by have := slen_8 i hi; omega)) _ _ (by first | exact wst_s ew zc25 zc52 | exact wst_n (i_lt (x := nI (SLEN.getD i 0)) rfl zc33 hlep (by have := slen_8 i hi; omega)) zc52) (nI_1 p))
    exact g_lv [0, 1, 2, 3] rfl (lp 0 (Nat.zero_le _) _ _ (by first | exact wst_1 hi hbr (by omega) zc13 | exact wst_0 hbr zc13) rfl)
  · --f13
    refine g_iconst (n := 17) (v := 1) C dX11_isWord_16 rfl (by decide) ?_
    refine g_goto (t := 21) C dX11_isWord_17 (by decide) ?_
    refine g_istore_n (n := 22) C dX11_isWord_21 rfl (by decide) ?_
    refine g_iconst (n := 23) (v := 0) C dX11_isWord_22 rfl (by decide) ?_
    refine g_istore_n (n := 24) C dX11_isWord_23 rfl (by decide) ?_
    have lp : ∀ p : Nat, p ≤ (SLEN.getD i 0) → ∀ (z t : Int32), wst (A 14) b r i p z → t = nI p → G K E 4 (QM K E (some .boolean) 0 0 P) 0 0 24 [(0, .ref o), (1, .ref (E.2.2 (20 + i))), (2, .int z), (3, .int t)] [] (mh E o ad (pF F (r) (b)) A h) := by
      refine loopN (fun p => ∀ (z t : Int32), wst (A 14) b r i p z → t = nI p → G K E 4 (QM K E (some .boolean) 0 0 P) 0 0 24 [(0, .ref o), (1, .ref (E.2.2 (20 + i))), (2, .int z), (3, .int t)] [] (mh E o ad (pF F (r) (b)) A h)) ((SLEN.getD i 0)) ?_
      intro p hlep ihp z t ew et
      subst et
      refine g_iload_n (n := 25) C dX11_isWord_24 rfl rfl ?_
      refine g_if_eq (n := 28) (t := 67) C dX11_isWord_25 rfl (by decide) (fun zc25 => ?_) (fun zc25 => ?_)
      · --t25
        refine g_iload_n (n := 68) C dX11_isWord_67 rfl rfl ?_
        refine g_zret C dX11_isWord_68 (by decide) (by decide) (by rcases ew with ⟨e1, -⟩ | ⟨e1, -⟩ <;> rw [e1] <;> rfl) ?_
        rcases ew with ⟨e1, w1, w2⟩ | ⟨e1, w1⟩
        · first
            | exact absurd (e1.symm.trans zc25) (by decide)
            | (have ep : p = (SLEN.getD i 0) := i_eq (x := nI (SLEN.getD i 0)) rfl zc33 hlep (by have := slen_8 i hi; omega)
               rw [e1]
               exact k1 ⟨w1, by rw [← ep]; exact w2⟩)
        · rw [e1]; exact k0 w1
      · --f25
        refine g_iload_n (n := 29) C dX11_isWord_28 rfl rfl ?_
        refine g_aload_n (n := 30) C dX11_isWord_29 rfl rfl ?_
        refine g_callV (n := 33) (As := []) C dX11_isWord_30 rfl mw_J0_length_8abf5 w_1235 (g_strR C hi) rfl rfl (room hR rfl) (ct_slen hi ?_)
        refine g_icmp_ge (n := 36) (t := 67) C dX11_isWord_33 rfl (by decide) (fun zc33 => ?_) (fun zc33 => ?_)
        · --t33
          refine g_iload_n (n := 68) C dX11_isWord_67 rfl rfl ?_
          refine g_zret C dX11_isWord_68 (by decide) (by decide) (by rcases ew with ⟨e1, -⟩ | ⟨e1, -⟩ <;> rw [e1] <;> rfl) ?_
          rcases ew with ⟨e1, w1, w2⟩ | ⟨e1, w1⟩
          · first
              | exact absurd (e1.symm.trans zc25) (by decide)
              | (have ep : p = (SLEN.getD i 0) := i_eq (x := nI (SLEN.getD i 0)) rfl zc33 hlep (by have := slen_8 i hi; omega)
                 rw [e1]
                 exact k1 ⟨w1, by rw [← ep]; exact w2⟩)
          · rw [e1]; exact k0 w1
        · --f33
          refine g_aload_n (n := 37) C dX11_isWord_36 rfl rfl ?_
          refine m_get (n := 40) 14 C dX11_isWord_37 rfl (by decide) rfl w_1114 rfl ?_
          refine g_aload_n (n := 41) C dX11_isWord_40 rfl rfl ?_
          refine m_get (n := 44) 18 C dX11_isWord_41 rfl (by decide) rfl w_1118 rfl ?_
          refine g_iload_n (n := 45) C dX11_isWord_44 rfl rfl ?_
          refine g_iadd (n := 46) C dX11_isWord_45 rfl ?_
          refine m_bald (n := 47) 14 (b + p) C dX11_isWord_46 rfl I (by decide) rfl (nI_add b p) (by have := (i_lt (x := nI (SLEN.getD i 0)) rfl zc33 hlep (by have := slen_8 i hi; omega)); have := wst_len ew zc25; omega) (by decide) rfl ?_
          refine g_aload_n (n := 48) C dX11_isWord_47 rfl rfl ?_
          refine g_iload_n (n := 49) C dX11_isWord_48 rfl rfl ?_
          refine g_callV (n := 52) (As := [.int _]) C dX11_isWord_49 rfl mw_J0_charAt_5068e w_1236 (g_strR C hi) rfl rfl (room hR rfl) (ct_schar hi (i_lt (x := nI (SLEN.getD i 0)) rfl zc33 hlep (by have := slen_8 i hi; omega)) ?_)
          refine g_icmp_ne (n := 55) (t := 59) C dX11_isWord_52 rfl (by decide) (fun zc52 => ?_) (fun zc52 => ?_)
          · --t52
            refine g_iconst (n := 60) (v := 0) C dX11_isWord_59 rfl (by decide) ?_
            refine g_istore_n (n := 61) C dX11_isWord_60 rfl (by decide) ?_
            refine g_iinc (n := 64) C dX11_isWord_61 rfl rfl rfl (by decide) ?_
            refine g_goto (t := 24) C dX11_isWord_64 (by decide) ?_
            exact g_lv [0, 1, 2, 3] rfl (ihp (i_lt (x := nI (SLEN.getD i 0)) rfl zc33 hlep (by have := slen_8 i hi; omega)) _ _ (by first | exact wst_s ew zc25 zc52 | exact wst_n (i_lt (x := nI (SLEN.getD i 0)) rfl zc33 hlep (by have := slen_8 i hi; omega)) zc52) (nI_1 p))
          · --f52
            refine g_iconst (n := 56) (v := 1) C dX11_isWord_55 rfl (by decide) ?_
            refine g_goto (t := 60) C dX11_isWord_56 (by decide) ?_
            refine g_istore_n (n := 61) C dX11_isWord_60 rfl (by decide) ?_
            refine g_iinc (n := 64) C dX11_isWord_61 rfl rfl rfl (by decide) ?_
            refine g_goto (t := 24) C dX11_isWord_64 (by decide) ?_
            exact g_lv [0, 1, 2, 3] rfl (ihp (i_lt (x := nI (SLEN.getD i 0)) rfl zc33 hlep (by have := slen_8 i hi; omega)) _ _ (by first | exact wst_s ew zc25 zc52 | exact wst_n (i_lt (x := nI (SLEN.getD i 0)) rfl zc33 hlep (by have := slen_8 i hi; omega)) zc52) (nI_1 p))
    exact g_lv [0, 1, 2, 3] rfl (lp 0 (Nat.zero_le _) _ _ (by first | exact wst_1 hi hbr (by omega) zc13 | exact wst_0 hbr zc13) rfl)
abbrev RS : Type := Int32 × Nat × Nat × (Nat → Nat → Int32)
abbrev rnR (A : Nat → Nat → Int32) (e q : Nat) : Nat := rdg A e (rbl A e q)
abbrev rnA (A : Nat → Nat → Int32) (e q j : Nat) : Nat → Nat → Int32 := aset A 12 j (rnv (A 14) (rbl A e q) (rnR A e q - rbl A e q))
noncomputable def rnumS (A : Nat → Nat → Int32) (e q j : Nat) (lo hi : Int32) : RS := (@ite _ (rnok (A 14) (rbl A e q) (rnR A e q) lo hi) (Classical.propDecidable _) 1 0, rnR A e q, rbl A e q, rnA A e q j)
theorem rnum_1 {A : Nat → Nat → Int32} {e q j : Nat} {lo hi : Int32} (h : rnok (A 14) (rbl A e q) (rnR A e q) lo hi) : rnumS A e q j lo hi = (1, rnR A e q, rbl A e q, rnA A e q j) := by
  unfold rnumS
  rw [if_pos h]
theorem rnum_0 {A : Nat → Nat → Int32} {e q j : Nat} {lo hi : Int32} (h : ¬ rnok (A 14) (rbl A e q) (rnR A e q) lo hi) : rnumS A e q j lo hi = (0, rnR A e q, rbl A e q, rnA A e q j) := by
  unfold rnumS
  rw [if_neg h]
abbrev rwb (A : Nat → Nat → Int32) (e q : Nat) : Nat := rbl A e q
abbrev rwr (A : Nat → Nat → Int32) (e q : Nat) : Nat := rlt A e (rbl A e q)
/-- the next word is word i -/
abbrev rwi (A : Nat → Nat → Int32) (e q i : Nat) : Prop := rwd (A 14) (rbl A e q) (rlt A e (rbl A e q)) i
noncomputable def rif (c : Prop) (x y : RS) : RS := @ite _ c (Classical.propDecidable _) x y
theorem rif_1 {c : Prop} {x y : RS} (h : c) : rif c x y = x := if_pos h
theorem rif_0 {c : Prop} {x y : RS} (h : ¬ c) : rif c x y = y := if_neg h
noncomputable def rtermS (A : Nat → Nat → Int32) (e q : Nat) : RS := rif (rwi A e q 0) (rnumS A e (rwr A e q) 0 0 11) (rif (rwi A e q 1) (rnumS A e (rwr A e q) 1 1 1000) (rif (rwi A e q 2) (rnumS A e (rwr A e q) 2 0 100000) (0, rwr A e q, rwb A e q, A)))
noncomputable def rcostS (A : Nat → Nat → Int32) (e q : Nat) : RS := rif (rwi A e q 4) (1, rwr A e q, rwb A e q, aset A 12 0 1) (0, rwr A e q, rwb A e q, aset A 12 0 1)
noncomputable def runtS (A : Nat → Nat → Int32) (e q : Nat) : RS := rif (rwi A e q 8) (rnumS A e (rwr A e q) 6 0 999999) (0, rwr A e q, rwb A e q, A)
noncomputable def rlendS (A : Nat → Nat → Int32) (e q : Nat) : RS := rif (rnok (A 14) (rbl A e q) (rnR A e q) 0 100) (runtS (rnA A e q 3) e (rnR A e q)) (0, rnR A e q, rbl A e q, rnA A e q 3)
noncomputable def rpartS (A : Nat → Nat → Int32) (e q : Nat) : RS := rif (rwi A e q 3) (rcostS A e (rwr A e q)) (rif (rwi A e q 5) (rnumS A e (rwr A e q) 1 0 100) (rif (rwi A e q 6) (rnumS A e (rwr A e q) 2 0 100) (rif (rwi A e q 9) (rnumS A e (rwr A e q) 4 0 100) (rif (rwi A e q 10) (rnumS A e (rwr A e q) 5 0 100) (rif (rwi A e q 7) (rlendS A e (rwr A e q)) (0, rwr A e q, rwb A e q, A))))))
theorem rif_le {c : Prop} {x y : RS} {e : Nat} (h1 : x.2.1 ≤ e) (h2 : y.2.1 ≤ e) : (rif c x y).2.1 ≤ e := by
  by_cases h : c
  · rw [rif_1 h]; exact h1
  · rw [rif_0 h]; exact h2
theorem rnum_le {A : Nat → Nat → Int32} {e q j : Nat} {lo hi : Int32} (h : q ≤ e) : (rnumS A e q j lo hi).2.1 ≤ e := rsc_le (rsc_le h)
theorem rwr_le {A : Nat → Nat → Int32} {e q : Nat} (h : q ≤ e) : rwr A e q ≤ e := rsc_le (rsc_le h)
theorem rterm_le {A : Nat → Nat → Int32} {e q : Nat} (h : q ≤ e) : (rtermS A e q).2.1 ≤ e := rif_le (rnum_le (rwr_le h)) (rif_le (rnum_le (rwr_le h)) (rif_le (rnum_le (rwr_le h)) (rwr_le h)))
theorem rpart_le {A : Nat → Nat → Int32} {e q : Nat} (h : q ≤ e) : (rpartS A e q).2.1 ≤ e :=
  rif_le (rif_le (rwr_le (rwr_le h)) (rwr_le (rwr_le h))) (rif_le (rnum_le (rwr_le h)) (rif_le (rnum_le (rwr_le h)) (rif_le (rnum_le (rwr_le h)) (rif_le (rnum_le (rwr_le h)) (rif_le (rif_le (rif_le (rnum_le (rwr_le (rsc_le (rsc_le (rwr_le h))))) (rwr_le (rsc_le (rsc_le (rwr_le h))))) (rsc_le (rsc_le (rwr_le h)))) (rwr_le h))))))
theorem rif_ge {c : Prop} {x y : RS} {q : Nat} (h1 : q ≤ x.2.1) (h2 : q ≤ y.2.1) : q ≤ (rif c x y).2.1 := by
  by_cases h : c
  · rw [rif_1 h]; exact h1
  · rw [rif_0 h]; exact h2
theorem rnR_ge {A : Nat → Nat → Int32} {e q q0 : Nat} (h : q0 ≤ q) : q0 ≤ rnR A e q := Nat.le_trans h (Nat.le_trans (rsc_ge _ _ _ _ _) (rsc_ge _ _ _ _ _))
theorem rwr_ge {A : Nat → Nat → Int32} {e q q0 : Nat} (h : q0 ≤ q) : q0 ≤ rwr A e q := Nat.le_trans h (Nat.le_trans (rsc_ge _ _ _ _ _) (rsc_ge _ _ _ _ _))
theorem rterm_ge {A : Nat → Nat → Int32} {e q : Nat} : q ≤ (rtermS A e q).2.1 :=
  have w : q ≤ rwr A e q := rwr_ge (Nat.le_refl q)
  rif_ge (rnR_ge w) (rif_ge (rnR_ge w) (rif_ge (rnR_ge w) w))
theorem rpart_ge {A : Nat → Nat → Int32} {e q : Nat} : q ≤ (rpartS A e q).2.1 :=
  have w : q ≤ rwr A e q := rwr_ge (Nat.le_refl q)
  rif_ge (rif_ge (rwr_ge w) (rwr_ge w)) (rif_ge (rnR_ge w) (rif_ge (rnR_ge w) (rif_ge (rnR_ge w) (rif_ge (rnR_ge w) (rif_ge (rif_ge (rif_ge (rnR_ge (rwr_ge (rnR_ge w))) (rwr_ge (rnR_ge w))) (rnR_ge w)) w)))))
theorem dX11_readTerm_0 : decode cX11_readTerm 0 = .ok (.aload_n 0, 1) := by decide +kernel
theorem dX11_readTerm_1 : decode cX11_readTerm 1 = .ok (.invokevirtual 118, 3) := by decide +kernel
theorem dX11_readTerm_4 : decode cX11_readTerm 4 = .ok (.aload_n 0, 1) := by decide +kernel
theorem dX11_readTerm_5 : decode cX11_readTerm 5 = .ok (.ldc 121, 2) := by decide +kernel
theorem dX11_readTerm_7 : decode cX11_readTerm 7 = .ok (.invokevirtual 123, 3) := by decide +kernel
theorem dX11_readTerm_10 : decode cX11_readTerm 10 = .ok (.ifCond .eq 12, 3) := by decide +kernel
theorem dX11_readTerm_13 : decode cX11_readTerm 13 = .ok (.aload_n 0, 1) := by decide +kernel
theorem dX11_readTerm_14 : decode cX11_readTerm 14 = .ok (.iconst 0, 1) := by decide +kernel
theorem dX11_readTerm_15 : decode cX11_readTerm 15 = .ok (.iconst 0, 1) := by decide +kernel
theorem dX11_readTerm_16 : decode cX11_readTerm 16 = .ok (.bipush 11, 2) := by decide +kernel
theorem dX11_readTerm_18 : decode cX11_readTerm 18 = .ok (.invokevirtual 127, 3) := by decide +kernel
theorem dX11_readTerm_21 : decode cX11_readTerm 21 = .ok (.ireturn, 1) := by decide +kernel
theorem dX11_readTerm_22 : decode cX11_readTerm 22 = .ok (.aload_n 0, 1) := by decide +kernel
theorem dX11_readTerm_23 : decode cX11_readTerm 23 = .ok (.ldc 130, 2) := by decide +kernel
theorem dX11_readTerm_25 : decode cX11_readTerm 25 = .ok (.invokevirtual 123, 3) := by decide +kernel
theorem dX11_readTerm_28 : decode cX11_readTerm 28 = .ok (.ifCond .eq 13, 3) := by decide +kernel
theorem dX11_readTerm_31 : decode cX11_readTerm 31 = .ok (.aload_n 0, 1) := by decide +kernel
theorem dX11_readTerm_32 : decode cX11_readTerm 32 = .ok (.iconst 1, 1) := by decide +kernel
theorem dX11_readTerm_33 : decode cX11_readTerm 33 = .ok (.iconst 1, 1) := by decide +kernel
theorem dX11_readTerm_34 : decode cX11_readTerm 34 = .ok (.sipush 1000, 3) := by decide +kernel
theorem dX11_readTerm_37 : decode cX11_readTerm 37 = .ok (.invokevirtual 127, 3) := by decide +kernel
theorem dX11_readTerm_40 : decode cX11_readTerm 40 = .ok (.ireturn, 1) := by decide +kernel
theorem dX11_readTerm_41 : decode cX11_readTerm 41 = .ok (.aload_n 0, 1) := by decide +kernel
theorem dX11_readTerm_42 : decode cX11_readTerm 42 = .ok (.ldc 132, 2) := by decide +kernel
theorem dX11_readTerm_44 : decode cX11_readTerm 44 = .ok (.invokevirtual 123, 3) := by decide +kernel
theorem dX11_readTerm_47 : decode cX11_readTerm 47 = .ok (.ifCond .eq 18, 3) := by decide +kernel
theorem dX11_readTerm_50 : decode cX11_readTerm 50 = .ok (.aload_n 0, 1) := by decide +kernel
theorem dX11_readTerm_51 : decode cX11_readTerm 51 = .ok (.iconst 2, 1) := by decide +kernel
theorem dX11_readTerm_52 : decode cX11_readTerm 52 = .ok (.iconst 0, 1) := by decide +kernel
theorem dX11_readTerm_53 : decode cX11_readTerm 53 = .ok (.ldc 133, 2) := by decide +kernel
theorem dX11_readTerm_55 : decode cX11_readTerm 55 = .ok (.invokevirtual 127, 3) := by decide +kernel
theorem dX11_readTerm_58 : decode cX11_readTerm 58 = .ok (.ifCond .eq 7, 3) := by decide +kernel
theorem dX11_readTerm_61 : decode cX11_readTerm 61 = .ok (.iconst 1, 1) := by decide +kernel
theorem dX11_readTerm_62 : decode cX11_readTerm 62 = .ok (.goto 4, 3) := by decide +kernel
theorem dX11_readTerm_65 : decode cX11_readTerm 65 = .ok (.iconst 0, 1) := by decide +kernel
theorem dX11_readTerm_66 : decode cX11_readTerm 66 = .ok (.ireturn, 1) := by decide +kernel
set_option maxHeartbeats 1000000 in
set_option maxRecDepth 20000 in
theorem ct_readTerm {l : Launch} {E : Ev} {P : Value → AH → Prop} {o : Nat} {ad : Nat → Nat} {F : Nat → Int32} {A : Nat → Nat → Int32} {h : AH} (I : mI o ad) {q b e : Nat} (he : F 17 = nI e) (hqe : q ≤ e) (he4 : e ≤ 400) (hp : P (.int (rtermS A e q).1) (mh E o ad (pF F ((rtermS A e q).2.1) ((rtermS A e q).2.2.1)) (rtermS A e q).2.2.2 h)) : Mt l E yX11_readTerm cX11_readTerm 1 (some .boolean) 5 108 0 0 [.ref o] (mh E o ad (pF F (q) (b)) A h) P := by
  refine Mt.of (by decide) (Nat.le_of_ble_eq_true rfl) ?_
  intro K hK hR C
  refine g_aload_n (n := 1) C dX11_readTerm_0 rfl rfl ?_
  refine g_callV (n := 4) (As := []) C dX11_readTerm_1 rfl mw_X11_word w_1218 (g_recv C mh_o rfl) rfl rfl (room hR rfl) (ct_word I he hqe he4 ?_)
  refine g_aload_n (n := 5) C dX11_readTerm_4 rfl rfl ?_
  refine g_ldcS (n := 7) "apart" 20 C dX11_readTerm_5 rfl (by decide) ?_
  refine g_callV (n := 10) (As := [.ref _]) C dX11_readTerm_7 rfl mw_X11_isWord w_1231 (g_recv C mh_o rfl) rfl rfl (room hR rfl) (ct_isWord I he (rsc_ge _ _ _ _ _) (rsc_le (rsc_le hqe)) he4 (i := 0) (by decide) (fun za7 => ?_) (fun zb7 => ?_))
  · --k7.0
    refine g_if_eq (n := 13) (t := 22) C dX11_readTerm_10 rfl (by decide) (fun zc10 => ?_) (fun zc10 => ?_)
    · exact absurd zc10 (by decide)
    refine g_aload_n (n := 14) C dX11_readTerm_13 rfl rfl ?_
    refine g_iconst (n := 15) (v := 0) C dX11_readTerm_14 rfl (by decide) ?_
    refine g_iconst (n := 16) (v := 0) C dX11_readTerm_15 rfl (by decide) ?_
    refine g_bipush (n := 18) (v := 11) C dX11_readTerm_16 rfl (by decide) ?_
    refine g_callV (n := 21) (As := [.int _, .int _, .int _]) C dX11_readTerm_18 rfl mw_X11_number w_1237 (g_recv C mh_o rfl) rfl rfl (room hR rfl) (ct_number I he (rsc_le (rsc_le hqe)) he4 (j := 0) (by decide) rfl (fun za18 => ?_) (fun zb18 => ?_))
    · --k18.0
      refine g_zret C dX11_readTerm_21 (by decide) (by decide) (by rfl) ?_
      rw [rtermS, rif_1 za7, rnum_1 za18] at hp
      exact hp
    · --k18.1
      refine g_zret C dX11_readTerm_21 (by decide) (by decide) (by rfl) ?_
      rw [rtermS, rif_1 za7, rnum_0 zb18] at hp
      exact hp
  · --k7.1
    refine g_if_eq (n := 13) (t := 22) C dX11_readTerm_10 rfl (by decide) (fun zc10 => ?_) (fun zc10 => ?_)
    rotate_left
    · exact absurd zc10 (by decide)
    refine g_aload_n (n := 23) C dX11_readTerm_22 rfl rfl ?_
    refine g_ldcS (n := 25) "fill" 21 C dX11_readTerm_23 rfl (by decide) ?_
    refine g_callV (n := 28) (As := [.ref _]) C dX11_readTerm_25 rfl mw_X11_isWord w_1231 (g_recv C mh_o rfl) rfl rfl (room hR rfl) (ct_isWord I he (rsc_ge _ _ _ _ _) (rsc_le (rsc_le hqe)) he4 (i := 1) (by decide) (fun za25 => ?_) (fun zb25 => ?_))
    · --k25.0
      refine g_if_eq (n := 31) (t := 41) C dX11_readTerm_28 rfl (by decide) (fun zc28 => ?_) (fun zc28 => ?_)
      · exact absurd zc28 (by decide)
      refine g_aload_n (n := 32) C dX11_readTerm_31 rfl rfl ?_
      refine g_iconst (n := 33) (v := 1) C dX11_readTerm_32 rfl (by decide) ?_
      refine g_iconst (n := 34) (v := 1) C dX11_readTerm_33 rfl (by decide) ?_
      refine g_sipush (n := 37) (v := 1000) C dX11_readTerm_34 rfl (by decide) ?_
      refine g_callV (n := 40) (As := [.int _, .int _, .int _]) C dX11_readTerm_37 rfl mw_X11_number w_1237 (g_recv C mh_o rfl) rfl rfl (room hR rfl) (ct_number I he (rsc_le (rsc_le hqe)) he4 (j := 1) (by decide) rfl (fun za37 => ?_) (fun zb37 => ?_))
      · --k37.0
        refine g_zret C dX11_readTerm_40 (by decide) (by decide) (by rfl) ?_
        rw [rtermS, rif_0 zb7, rif_1 za25, rnum_1 za37] at hp
        exact hp
      · --k37.1
        refine g_zret C dX11_readTerm_40 (by decide) (by decide) (by rfl) ?_
        rw [rtermS, rif_0 zb7, rif_1 za25, rnum_0 zb37] at hp
        exact hp
    · --k25.1
      refine g_if_eq (n := 31) (t := 41) C dX11_readTerm_28 rfl (by decide) (fun zc28 => ?_) (fun zc28 => ?_)
      rotate_left
      · exact absurd zc28 (by decide)
      refine g_aload_n (n := 42) C dX11_readTerm_41 rfl rfl ?_
      refine g_ldcS (n := 44) "bond" 22 C dX11_readTerm_42 rfl (by decide) ?_
      refine g_callV (n := 47) (As := [.ref _]) C dX11_readTerm_44 rfl mw_X11_isWord w_1231 (g_recv C mh_o rfl) rfl rfl (room hR rfl) (ct_isWord I he (rsc_ge _ _ _ _ _) (rsc_le (rsc_le hqe)) he4 (i := 2) (by decide) (fun za44 => ?_) (fun zb44 => ?_))
      · --k44.0
        refine g_if_eq (n := 50) (t := 65) C dX11_readTerm_47 rfl (by decide) (fun zc47 => ?_) (fun zc47 => ?_)
        · exact absurd zc47 (by decide)
        refine g_aload_n (n := 51) C dX11_readTerm_50 rfl rfl ?_
        refine g_iconst (n := 52) (v := 2) C dX11_readTerm_51 rfl (by decide) ?_
        refine g_iconst (n := 53) (v := 0) C dX11_readTerm_52 rfl (by decide) ?_
        refine g_ldc (n := 55) C dX11_readTerm_53 rfl w_1243 ?_
        refine g_callV (n := 58) (As := [.int _, .int _, .int _]) C dX11_readTerm_55 rfl mw_X11_number w_1237 (g_recv C mh_o rfl) rfl rfl (room hR rfl) (ct_number I he (rsc_le (rsc_le hqe)) he4 (j := 2) (by decide) rfl (fun za55 => ?_) (fun zb55 => ?_))
        · --k55.0
          refine g_if_eq (n := 61) (t := 65) C dX11_readTerm_58 rfl (by decide) (fun zc58 => ?_) (fun zc58 => ?_)
          · exact absurd zc58 (by decide)
          refine g_iconst (n := 62) (v := 1) C dX11_readTerm_61 rfl (by decide) ?_
          refine g_goto (t := 66) C dX11_readTerm_62 (by decide) ?_
          refine g_zret C dX11_readTerm_66 (by decide) (by decide) (by rfl) ?_
          rw [rtermS, rif_0 zb7, rif_0 zb25, rif_1 za44, rnum_1 za55] at hp
          exact hp
        · --k55.1
          refine g_if_eq (n := 61) (t := 65) C dX11_readTerm_58 rfl (by decide) (fun zc58 => ?_) (fun zc58 => ?_)
          rotate_left
          · exact absurd zc58 (by decide)
          refine g_iconst (n := 66) (v := 0) C dX11_readTerm_65 rfl (by decide) ?_
          refine g_zret C dX11_readTerm_66 (by decide) (by decide) (by rfl) ?_
          first | rw [rtermS, rif_0 zb7, rif_0 zb25, rif_1 za44, rnum_0 zb55] at hp | rw [rtermS, rif_0 zb7, rif_0 zb25, rif_0 zb44] at hp
          exact hp
      · --k44.1
        refine g_if_eq (n := 50) (t := 65) C dX11_readTerm_47 rfl (by decide) (fun zc47 => ?_) (fun zc47 => ?_)
        rotate_left
        · exact absurd zc47 (by decide)
        refine g_iconst (n := 66) (v := 0) C dX11_readTerm_65 rfl (by decide) ?_
        refine g_zret C dX11_readTerm_66 (by decide) (by decide) (by rfl) ?_
        first | rw [rtermS, rif_0 zb7, rif_0 zb25, rif_1 za44, rnum_0 zb55] at hp | rw [rtermS, rif_0 zb7, rif_0 zb25, rif_0 zb44] at hp
        exact hp
theorem dX11_readPart_0 : decode cX11_readPart 0 = .ok (.aload_n 0, 1) := by decide +kernel
theorem dX11_readPart_1 : decode cX11_readPart 1 = .ok (.invokevirtual 118, 3) := by decide +kernel
theorem dX11_readPart_4 : decode cX11_readPart 4 = .ok (.aload_n 0, 1) := by decide +kernel
theorem dX11_readPart_5 : decode cX11_readPart 5 = .ok (.ldc 134, 2) := by decide +kernel
theorem dX11_readPart_7 : decode cX11_readPart 7 = .ok (.invokevirtual 123, 3) := by decide +kernel
theorem dX11_readPart_10 : decode cX11_readPart 10 = .ok (.ifCond .eq 21, 3) := by decide +kernel
theorem dX11_readPart_13 : decode cX11_readPart 13 = .ok (.aload_n 0, 1) := by decide +kernel
theorem dX11_readPart_14 : decode cX11_readPart 14 = .ok (.invokevirtual 118, 3) := by decide +kernel
theorem dX11_readPart_17 : decode cX11_readPart 17 = .ok (.aload_n 0, 1) := by decide +kernel
theorem dX11_readPart_18 : decode cX11_readPart 18 = .ok (.getfield 38, 3) := by decide +kernel
theorem dX11_readPart_21 : decode cX11_readPart 21 = .ok (.iconst 0, 1) := by decide +kernel
theorem dX11_readPart_22 : decode cX11_readPart 22 = .ok (.iconst 1, 1) := by decide +kernel
theorem dX11_readPart_23 : decode cX11_readPart 23 = .ok (.iastore, 1) := by decide +kernel
theorem dX11_readPart_24 : decode cX11_readPart 24 = .ok (.aload_n 0, 1) := by decide +kernel
theorem dX11_readPart_25 : decode cX11_readPart 25 = .ok (.ldc 136, 2) := by decide +kernel
theorem dX11_readPart_27 : decode cX11_readPart 27 = .ok (.invokevirtual 123, 3) := by decide +kernel
theorem dX11_readPart_30 : decode cX11_readPart 30 = .ok (.ireturn, 1) := by decide +kernel
theorem dX11_readPart_31 : decode cX11_readPart 31 = .ok (.aload_n 0, 1) := by decide +kernel
theorem dX11_readPart_32 : decode cX11_readPart 32 = .ok (.ldc 138, 2) := by decide +kernel
theorem dX11_readPart_34 : decode cX11_readPart 34 = .ok (.invokevirtual 123, 3) := by decide +kernel
theorem dX11_readPart_37 : decode cX11_readPart 37 = .ok (.ifCond .eq 12, 3) := by decide +kernel
theorem dX11_readPart_40 : decode cX11_readPart 40 = .ok (.aload_n 0, 1) := by decide +kernel
theorem dX11_readPart_41 : decode cX11_readPart 41 = .ok (.iconst 1, 1) := by decide +kernel
theorem dX11_readPart_42 : decode cX11_readPart 42 = .ok (.iconst 0, 1) := by decide +kernel
theorem dX11_readPart_43 : decode cX11_readPart 43 = .ok (.bipush 100, 2) := by decide +kernel
theorem dX11_readPart_45 : decode cX11_readPart 45 = .ok (.invokevirtual 127, 3) := by decide +kernel
theorem dX11_readPart_48 : decode cX11_readPart 48 = .ok (.ireturn, 1) := by decide +kernel
theorem dX11_readPart_49 : decode cX11_readPart 49 = .ok (.aload_n 0, 1) := by decide +kernel
theorem dX11_readPart_50 : decode cX11_readPart 50 = .ok (.ldc 140, 2) := by decide +kernel
theorem dX11_readPart_52 : decode cX11_readPart 52 = .ok (.invokevirtual 123, 3) := by decide +kernel
theorem dX11_readPart_55 : decode cX11_readPart 55 = .ok (.ifCond .eq 12, 3) := by decide +kernel
theorem dX11_readPart_58 : decode cX11_readPart 58 = .ok (.aload_n 0, 1) := by decide +kernel
theorem dX11_readPart_59 : decode cX11_readPart 59 = .ok (.iconst 2, 1) := by decide +kernel
theorem dX11_readPart_60 : decode cX11_readPart 60 = .ok (.iconst 0, 1) := by decide +kernel
theorem dX11_readPart_61 : decode cX11_readPart 61 = .ok (.bipush 100, 2) := by decide +kernel
theorem dX11_readPart_63 : decode cX11_readPart 63 = .ok (.invokevirtual 127, 3) := by decide +kernel
theorem dX11_readPart_66 : decode cX11_readPart 66 = .ok (.ireturn, 1) := by decide +kernel
theorem dX11_readPart_67 : decode cX11_readPart 67 = .ok (.aload_n 0, 1) := by decide +kernel
theorem dX11_readPart_68 : decode cX11_readPart 68 = .ok (.ldc 142, 2) := by decide +kernel
theorem dX11_readPart_70 : decode cX11_readPart 70 = .ok (.invokevirtual 123, 3) := by decide +kernel
theorem dX11_readPart_73 : decode cX11_readPart 73 = .ok (.ifCond .eq 12, 3) := by decide +kernel
theorem dX11_readPart_76 : decode cX11_readPart 76 = .ok (.aload_n 0, 1) := by decide +kernel
theorem dX11_readPart_77 : decode cX11_readPart 77 = .ok (.iconst 4, 1) := by decide +kernel
theorem dX11_readPart_78 : decode cX11_readPart 78 = .ok (.iconst 0, 1) := by decide +kernel
theorem dX11_readPart_79 : decode cX11_readPart 79 = .ok (.bipush 100, 2) := by decide +kernel
theorem dX11_readPart_81 : decode cX11_readPart 81 = .ok (.invokevirtual 127, 3) := by decide +kernel
theorem dX11_readPart_84 : decode cX11_readPart 84 = .ok (.ireturn, 1) := by decide +kernel
theorem dX11_readPart_85 : decode cX11_readPart 85 = .ok (.aload_n 0, 1) := by decide +kernel
theorem dX11_readPart_86 : decode cX11_readPart 86 = .ok (.ldc 144, 2) := by decide +kernel
theorem dX11_readPart_88 : decode cX11_readPart 88 = .ok (.invokevirtual 123, 3) := by decide +kernel
theorem dX11_readPart_91 : decode cX11_readPart 91 = .ok (.ifCond .eq 12, 3) := by decide +kernel
theorem dX11_readPart_94 : decode cX11_readPart 94 = .ok (.aload_n 0, 1) := by decide +kernel
theorem dX11_readPart_95 : decode cX11_readPart 95 = .ok (.iconst 5, 1) := by decide +kernel
theorem dX11_readPart_96 : decode cX11_readPart 96 = .ok (.iconst 0, 1) := by decide +kernel
theorem dX11_readPart_97 : decode cX11_readPart 97 = .ok (.bipush 100, 2) := by decide +kernel
theorem dX11_readPart_99 : decode cX11_readPart 99 = .ok (.invokevirtual 127, 3) := by decide +kernel
theorem dX11_readPart_102 : decode cX11_readPart 102 = .ok (.ireturn, 1) := by decide +kernel
theorem dX11_readPart_103 : decode cX11_readPart 103 = .ok (.aload_n 0, 1) := by decide +kernel
theorem dX11_readPart_104 : decode cX11_readPart 104 = .ok (.ldc 146, 2) := by decide +kernel
theorem dX11_readPart_106 : decode cX11_readPart 106 = .ok (.invokevirtual 123, 3) := by decide +kernel
theorem dX11_readPart_109 : decode cX11_readPart 109 = .ok (.ifCond .eq 14, 3) := by decide +kernel
theorem dX11_readPart_112 : decode cX11_readPart 112 = .ok (.aload_n 0, 1) := by decide +kernel
theorem dX11_readPart_113 : decode cX11_readPart 113 = .ok (.iconst 3, 1) := by decide +kernel
theorem dX11_readPart_114 : decode cX11_readPart 114 = .ok (.iconst 0, 1) := by decide +kernel
theorem dX11_readPart_115 : decode cX11_readPart 115 = .ok (.bipush 100, 2) := by decide +kernel
theorem dX11_readPart_117 : decode cX11_readPart 117 = .ok (.invokevirtual 127, 3) := by decide +kernel
theorem dX11_readPart_120 : decode cX11_readPart 120 = .ok (.ifCond .ne 5, 3) := by decide +kernel
theorem dX11_readPart_123 : decode cX11_readPart 123 = .ok (.iconst 0, 1) := by decide +kernel
theorem dX11_readPart_124 : decode cX11_readPart 124 = .ok (.ireturn, 1) := by decide +kernel
theorem dX11_readPart_125 : decode cX11_readPart 125 = .ok (.aload_n 0, 1) := by decide +kernel
theorem dX11_readPart_126 : decode cX11_readPart 126 = .ok (.invokevirtual 118, 3) := by decide +kernel
theorem dX11_readPart_129 : decode cX11_readPart 129 = .ok (.aload_n 0, 1) := by decide +kernel
theorem dX11_readPart_130 : decode cX11_readPart 130 = .ok (.ldc 148, 2) := by decide +kernel
theorem dX11_readPart_132 : decode cX11_readPart 132 = .ok (.invokevirtual 123, 3) := by decide +kernel
theorem dX11_readPart_135 : decode cX11_readPart 135 = .ok (.ifCond .eq 19, 3) := by decide +kernel
theorem dX11_readPart_138 : decode cX11_readPart 138 = .ok (.aload_n 0, 1) := by decide +kernel
theorem dX11_readPart_139 : decode cX11_readPart 139 = .ok (.bipush 6, 2) := by decide +kernel
theorem dX11_readPart_141 : decode cX11_readPart 141 = .ok (.iconst 0, 1) := by decide +kernel
theorem dX11_readPart_142 : decode cX11_readPart 142 = .ok (.ldc 150, 2) := by decide +kernel
theorem dX11_readPart_144 : decode cX11_readPart 144 = .ok (.invokevirtual 127, 3) := by decide +kernel
theorem dX11_readPart_147 : decode cX11_readPart 147 = .ok (.ifCond .eq 7, 3) := by decide +kernel
theorem dX11_readPart_150 : decode cX11_readPart 150 = .ok (.iconst 1, 1) := by decide +kernel
theorem dX11_readPart_151 : decode cX11_readPart 151 = .ok (.goto 4, 3) := by decide +kernel
theorem dX11_readPart_154 : decode cX11_readPart 154 = .ok (.iconst 0, 1) := by decide +kernel
theorem dX11_readPart_155 : decode cX11_readPart 155 = .ok (.ireturn, 1) := by decide +kernel
set_option maxHeartbeats 2000000 in
set_option maxRecDepth 20000 in
theorem ct_readPart {l : Launch} {E : Ev} {P : Value → AH → Prop} {o : Nat} {ad : Nat → Nat} {F : Nat → Int32} {A : Nat → Nat → Int32} {h : AH} (I : mI o ad) {q b e : Nat} (he : F 17 = nI e) (hqe : q ≤ e) (he4 : e ≤ 400) (hp : P (.int (rpartS A e q).1) (mh E o ad (pF F ((rpartS A e q).2.1) ((rpartS A e q).2.2.1)) (rpartS A e q).2.2.2 h)) : Mt l E yX11_readPart cX11_readPart 1 (some .boolean) 5 108 0 0 [.ref o] (mh E o ad (pF F (q) (b)) A h) P := by
  refine Mt.of (by decide) (Nat.le_of_ble_eq_true rfl) ?_
  intro K hK hR C
  refine g_aload_n (n := 1) C dX11_readPart_0 rfl rfl ?_
  refine g_callV (n := 4) (As := []) C dX11_readPart_1 rfl mw_X11_word w_1218 (g_recv C mh_o rfl) rfl rfl (room hR rfl) (ct_word I he hqe he4 ?_)
  refine g_aload_n (n := 5) C dX11_readPart_4 rfl rfl ?_
  refine g_ldcS (n := 7) "costs" 23 C dX11_readPart_5 rfl (by decide) ?_
  refine g_callV (n := 10) (As := [.ref _]) C dX11_readPart_7 rfl mw_X11_isWord w_1231 (g_recv C mh_o rfl) rfl rfl (room hR rfl) (ct_isWord I he (rsc_ge _ _ _ _ _) (rsc_le (rsc_le hqe)) he4 (i := 3) (by decide) (fun za7 => ?_) (fun zb7 => ?_))
  · --k7.0
    refine g_if_eq (n := 13) (t := 31) C dX11_readPart_10 rfl (by decide) (fun zc10 => ?_) (fun zc10 => ?_)
    · exact absurd zc10 (by decide)
    refine g_aload_n (n := 14) C dX11_readPart_13 rfl rfl ?_
    refine g_callV (n := 17) (As := []) C dX11_readPart_14 rfl mw_X11_word w_1218 (g_recv C mh_o rfl) rfl rfl (room hR rfl) (ct_word I he (rsc_le (rsc_le hqe)) he4 ?_)
    refine g_aload_n (n := 18) C dX11_readPart_17 rfl rfl ?_
    refine m_get (n := 21) 12 C dX11_readPart_18 rfl (by decide) rfl w_1112 rfl ?_
    refine g_iconst (n := 22) (v := 0) C dX11_readPart_21 rfl (by decide) ?_
    refine g_iconst (n := 23) (v := 1) C dX11_readPart_22 rfl (by decide) ?_
    refine m_iast (n := 24) 12 (0) C dX11_readPart_23 rfl I (by decide) (fun _ => rfl) rfl (by decide) (by decide) ?_
    refine g_aload_n (n := 25) C dX11_readPart_24 rfl rfl ?_
    refine g_ldcS (n := 27) "first" 24 C dX11_readPart_25 rfl (by decide) ?_
    refine g_callV (n := 30) (As := [.ref _]) C dX11_readPart_27 rfl mw_X11_isWord w_1231 (g_recv C mh_o rfl) rfl rfl (room hR rfl) (ct_isWord I he (rsc_ge _ _ _ _ _) (rsc_le (rsc_le (rsc_le (rsc_le hqe)))) he4 (i := 4) (by decide) (fun za27 => ?_) (fun zb27 => ?_))
    · --k27.0
      refine g_zret C dX11_readPart_30 (by decide) (by decide) (by rfl) ?_
      rw [rpartS, rif_1 za7, rcostS, rif_1 (show rwi A e (rwr A e q) 4 from za27)] at hp
      exact hp
    · --k27.1
      refine g_zret C dX11_readPart_30 (by decide) (by decide) (by rfl) ?_
      rw [rpartS, rif_1 za7, rcostS, rif_0 (show ¬ rwi A e (rwr A e q) 4 from zb27)] at hp
      exact hp
  · --k7.1
    refine g_if_eq (n := 13) (t := 31) C dX11_readPart_10 rfl (by decide) (fun zc10 => ?_) (fun zc10 => ?_)
    rotate_left
    · exact absurd zc10 (by decide)
    refine g_aload_n (n := 32) C dX11_readPart_31 rfl rfl ?_
    refine g_ldcS (n := 34) "land" 25 C dX11_readPart_32 rfl (by decide) ?_
    refine g_callV (n := 37) (As := [.ref _]) C dX11_readPart_34 rfl mw_X11_isWord w_1231 (g_recv C mh_o rfl) rfl rfl (room hR rfl) (ct_isWord I he (rsc_ge _ _ _ _ _) (rsc_le (rsc_le hqe)) he4 (i := 5) (by decide) (fun za34 => ?_) (fun zb34 => ?_))
    · --k34.0
      refine g_if_eq (n := 40) (t := 49) C dX11_readPart_37 rfl (by decide) (fun zc37 => ?_) (fun zc37 => ?_)
      · exact absurd zc37 (by decide)
      refine g_aload_n (n := 41) C dX11_readPart_40 rfl rfl ?_
      refine g_iconst (n := 42) (v := 1) C dX11_readPart_41 rfl (by decide) ?_
      refine g_iconst (n := 43) (v := 0) C dX11_readPart_42 rfl (by decide) ?_
      refine g_bipush (n := 45) (v := 100) C dX11_readPart_43 rfl (by decide) ?_
      refine g_callV (n := 48) (As := [.int _, .int _, .int _]) C dX11_readPart_45 rfl mw_X11_number w_1237 (g_recv C mh_o rfl) rfl rfl (room hR rfl) (ct_number I he (rsc_le (rsc_le hqe)) he4 (j := 1) (by decide) rfl (fun za45 => ?_) (fun zb45 => ?_))
      · --k45.0
        refine g_zret C dX11_readPart_48 (by decide) (by decide) (by rfl) ?_
        rw [rpartS, rif_0 zb7, rif_1 za34, rnum_1 za45] at hp
        exact hp
      · --k45.1
        refine g_zret C dX11_readPart_48 (by decide) (by decide) (by rfl) ?_
        rw [rpartS, rif_0 zb7, rif_1 za34, rnum_0 zb45] at hp
        exact hp
    · --k34.1
      refine g_if_eq (n := 40) (t := 49) C dX11_readPart_37 rfl (by decide) (fun zc37 => ?_) (fun zc37 => ?_)
      rotate_left
      · exact absurd zc37 (by decide)
      refine g_aload_n (n := 50) C dX11_readPart_49 rfl rfl ?_
      refine g_ldcS (n := 52) "licence" 26 C dX11_readPart_50 rfl (by decide) ?_
      refine g_callV (n := 55) (As := [.ref _]) C dX11_readPart_52 rfl mw_X11_isWord w_1231 (g_recv C mh_o rfl) rfl rfl (room hR rfl) (ct_isWord I he (rsc_ge _ _ _ _ _) (rsc_le (rsc_le hqe)) he4 (i := 6) (by decide) (fun za52 => ?_) (fun zb52 => ?_))
      · --k52.0
        refine g_if_eq (n := 58) (t := 67) C dX11_readPart_55 rfl (by decide) (fun zc55 => ?_) (fun zc55 => ?_)
        · exact absurd zc55 (by decide)
        refine g_aload_n (n := 59) C dX11_readPart_58 rfl rfl ?_
        refine g_iconst (n := 60) (v := 2) C dX11_readPart_59 rfl (by decide) ?_
        refine g_iconst (n := 61) (v := 0) C dX11_readPart_60 rfl (by decide) ?_
        refine g_bipush (n := 63) (v := 100) C dX11_readPart_61 rfl (by decide) ?_
        refine g_callV (n := 66) (As := [.int _, .int _, .int _]) C dX11_readPart_63 rfl mw_X11_number w_1237 (g_recv C mh_o rfl) rfl rfl (room hR rfl) (ct_number I he (rsc_le (rsc_le hqe)) he4 (j := 2) (by decide) rfl (fun za63 => ?_) (fun zb63 => ?_))
        · --k63.0
          refine g_zret C dX11_readPart_66 (by decide) (by decide) (by rfl) ?_
          rw [rpartS, rif_0 zb7, rif_0 zb34, rif_1 za52, rnum_1 za63] at hp
          exact hp
        · --k63.1
          refine g_zret C dX11_readPart_66 (by decide) (by decide) (by rfl) ?_
          rw [rpartS, rif_0 zb7, rif_0 zb34, rif_1 za52, rnum_0 zb63] at hp
          exact hp
      · --k52.1
        refine g_if_eq (n := 58) (t := 67) C dX11_readPart_55 rfl (by decide) (fun zc55 => ?_) (fun zc55 => ?_)
        rotate_left
        · exact absurd zc55 (by decide)
        refine g_aload_n (n := 68) C dX11_readPart_67 rfl rfl ?_
        refine g_ldcS (n := 70) "diggers" 29 C dX11_readPart_68 rfl (by decide) ?_
        refine g_callV (n := 73) (As := [.ref _]) C dX11_readPart_70 rfl mw_X11_isWord w_1231 (g_recv C mh_o rfl) rfl rfl (room hR rfl) (ct_isWord I he (rsc_ge _ _ _ _ _) (rsc_le (rsc_le hqe)) he4 (i := 9) (by decide) (fun za70 => ?_) (fun zb70 => ?_))
        · --k70.0
          refine g_if_eq (n := 76) (t := 85) C dX11_readPart_73 rfl (by decide) (fun zc73 => ?_) (fun zc73 => ?_)
          · exact absurd zc73 (by decide)
          refine g_aload_n (n := 77) C dX11_readPart_76 rfl rfl ?_
          refine g_iconst (n := 78) (v := 4) C dX11_readPart_77 rfl (by decide) ?_
          refine g_iconst (n := 79) (v := 0) C dX11_readPart_78 rfl (by decide) ?_
          refine g_bipush (n := 81) (v := 100) C dX11_readPart_79 rfl (by decide) ?_
          refine g_callV (n := 84) (As := [.int _, .int _, .int _]) C dX11_readPart_81 rfl mw_X11_number w_1237 (g_recv C mh_o rfl) rfl rfl (room hR rfl) (ct_number I he (rsc_le (rsc_le hqe)) he4 (j := 4) (by decide) rfl (fun za81 => ?_) (fun zb81 => ?_))
          · --k81.0
            refine g_zret C dX11_readPart_84 (by decide) (by decide) (by rfl) ?_
            rw [rpartS, rif_0 zb7, rif_0 zb34, rif_0 zb52, rif_1 za70, rnum_1 za81] at hp
            exact hp
          · --k81.1
            refine g_zret C dX11_readPart_84 (by decide) (by decide) (by rfl) ?_
            rw [rpartS, rif_0 zb7, rif_0 zb34, rif_0 zb52, rif_1 za70, rnum_0 zb81] at hp
            exact hp
        · --k70.1
          refine g_if_eq (n := 76) (t := 85) C dX11_readPart_73 rfl (by decide) (fun zc73 => ?_) (fun zc73 => ?_)
          rotate_left
          · exact absurd zc73 (by decide)
          refine g_aload_n (n := 86) C dX11_readPart_85 rfl rfl ?_
          refine g_ldcS (n := 88) "pump" 30 C dX11_readPart_86 rfl (by decide) ?_
          refine g_callV (n := 91) (As := [.ref _]) C dX11_readPart_88 rfl mw_X11_isWord w_1231 (g_recv C mh_o rfl) rfl rfl (room hR rfl) (ct_isWord I he (rsc_ge _ _ _ _ _) (rsc_le (rsc_le hqe)) he4 (i := 10) (by decide) (fun za88 => ?_) (fun zb88 => ?_))
          · --k88.0
            refine g_if_eq (n := 94) (t := 103) C dX11_readPart_91 rfl (by decide) (fun zc91 => ?_) (fun zc91 => ?_)
            · exact absurd zc91 (by decide)
            refine g_aload_n (n := 95) C dX11_readPart_94 rfl rfl ?_
            refine g_iconst (n := 96) (v := 5) C dX11_readPart_95 rfl (by decide) ?_
            refine g_iconst (n := 97) (v := 0) C dX11_readPart_96 rfl (by decide) ?_
            refine g_bipush (n := 99) (v := 100) C dX11_readPart_97 rfl (by decide) ?_
            refine g_callV (n := 102) (As := [.int _, .int _, .int _]) C dX11_readPart_99 rfl mw_X11_number w_1237 (g_recv C mh_o rfl) rfl rfl (room hR rfl) (ct_number I he (rsc_le (rsc_le hqe)) he4 (j := 5) (by decide) rfl (fun za99 => ?_) (fun zb99 => ?_))
            · --k99.0
              refine g_zret C dX11_readPart_102 (by decide) (by decide) (by rfl) ?_
              rw [rpartS, rif_0 zb7, rif_0 zb34, rif_0 zb52, rif_0 zb70, rif_1 za88, rnum_1 za99] at hp
              exact hp
            · --k99.1
              refine g_zret C dX11_readPart_102 (by decide) (by decide) (by rfl) ?_
              rw [rpartS, rif_0 zb7, rif_0 zb34, rif_0 zb52, rif_0 zb70, rif_1 za88, rnum_0 zb99] at hp
              exact hp
          · --k88.1
            refine g_if_eq (n := 94) (t := 103) C dX11_readPart_91 rfl (by decide) (fun zc91 => ?_) (fun zc91 => ?_)
            rotate_left
            · exact absurd zc91 (by decide)
            refine g_aload_n (n := 104) C dX11_readPart_103 rfl rfl ?_
            refine g_ldcS (n := 106) "lender" 27 C dX11_readPart_104 rfl (by decide) ?_
            refine g_callV (n := 109) (As := [.ref _]) C dX11_readPart_106 rfl mw_X11_isWord w_1231 (g_recv C mh_o rfl) rfl rfl (room hR rfl) (ct_isWord I he (rsc_ge _ _ _ _ _) (rsc_le (rsc_le hqe)) he4 (i := 7) (by decide) (fun za106 => ?_) (fun zb106 => ?_))
            · --k106.0
              refine g_if_eq (n := 112) (t := 123) C dX11_readPart_109 rfl (by decide) (fun zc109 => ?_) (fun zc109 => ?_)
              · exact absurd zc109 (by decide)
              refine g_aload_n (n := 113) C dX11_readPart_112 rfl rfl ?_
              refine g_iconst (n := 114) (v := 3) C dX11_readPart_113 rfl (by decide) ?_
              refine g_iconst (n := 115) (v := 0) C dX11_readPart_114 rfl (by decide) ?_
              refine g_bipush (n := 117) (v := 100) C dX11_readPart_115 rfl (by decide) ?_
              refine g_callV (n := 120) (As := [.int _, .int _, .int _]) C dX11_readPart_117 rfl mw_X11_number w_1237 (g_recv C mh_o rfl) rfl rfl (room hR rfl) (ct_number I he (rsc_le (rsc_le hqe)) he4 (j := 3) (by decide) rfl (fun za117 => ?_) (fun zb117 => ?_))
              · --k117.0
                refine g_if_ne (n := 123) (t := 125) C dX11_readPart_120 rfl (by decide) (fun zc120 => ?_) (fun zc120 => ?_)
                rotate_left
                · exact absurd zc120 (by decide)
                refine g_aload_n (n := 126) C dX11_readPart_125 rfl rfl ?_
                refine g_callV (n := 129) (As := []) C dX11_readPart_126 rfl mw_X11_word w_1218 (g_recv C mh_o rfl) rfl rfl (room hR rfl) (ct_word I he (rsc_le (rsc_le (rsc_le (rsc_le hqe)))) he4 ?_)
                refine g_aload_n (n := 130) C dX11_readPart_129 rfl rfl ?_
                refine g_ldcS (n := 132) "until" 28 C dX11_readPart_130 rfl (by decide) ?_
                refine g_callV (n := 135) (As := [.ref _]) C dX11_readPart_132 rfl mw_X11_isWord w_1231 (g_recv C mh_o rfl) rfl rfl (room hR rfl) (ct_isWord I he (rsc_ge _ _ _ _ _) (rsc_le (rsc_le (rsc_le (rsc_le (rsc_le (rsc_le hqe)))))) he4 (i := 8) (by decide) (fun za132 => ?_) (fun zb132 => ?_))
                · --k132.0
                  refine g_if_eq (n := 138) (t := 154) C dX11_readPart_135 rfl (by decide) (fun zc135 => ?_) (fun zc135 => ?_)
                  · exact absurd zc135 (by decide)
                  refine g_aload_n (n := 139) C dX11_readPart_138 rfl rfl ?_
                  refine g_bipush (n := 141) (v := 6) C dX11_readPart_139 rfl (by decide) ?_
                  refine g_iconst (n := 142) (v := 0) C dX11_readPart_141 rfl (by decide) ?_
                  refine g_ldc (n := 144) C dX11_readPart_142 rfl w_1256 ?_
                  refine g_callV (n := 147) (As := [.int _, .int _, .int _]) C dX11_readPart_144 rfl mw_X11_number w_1237 (g_recv C mh_o rfl) rfl rfl (room hR rfl) (ct_number I he (rsc_le (rsc_le (rsc_le (rsc_le (rsc_le (rsc_le hqe)))))) he4 (j := 6) (by decide) rfl (fun za144 => ?_) (fun zb144 => ?_))
                  · --k144.0
                    refine g_if_eq (n := 150) (t := 154) C dX11_readPart_147 rfl (by decide) (fun zc147 => ?_) (fun zc147 => ?_)
                    · exact absurd zc147 (by decide)
                    refine g_iconst (n := 151) (v := 1) C dX11_readPart_150 rfl (by decide) ?_
                    refine g_goto (t := 155) C dX11_readPart_151 (by decide) ?_
                    refine g_zret C dX11_readPart_155 (by decide) (by decide) (by rfl) ?_
                    rw [rpartS, rif_0 zb7, rif_0 zb34, rif_0 zb52, rif_0 zb70, rif_0 zb88, rif_1 za106, rlendS, rif_1 za117, runtS, rif_1 za132, rnum_1 za144] at hp
                    exact hp
                  · --k144.1
                    refine g_if_eq (n := 150) (t := 154) C dX11_readPart_147 rfl (by decide) (fun zc147 => ?_) (fun zc147 => ?_)
                    rotate_left
                    · exact absurd zc147 (by decide)
                    refine g_iconst (n := 155) (v := 0) C dX11_readPart_154 rfl (by decide) ?_
                    refine g_zret C dX11_readPart_155 (by decide) (by decide) (by rfl) ?_
                    first | (rw [rpartS, rif_0 zb7, rif_0 zb34, rif_0 zb52, rif_0 zb70, rif_0 zb88, rif_1 za106, rlendS, rif_1 za117, runtS, rif_1 za132, rnum_0 zb144] at hp; exact hp) | (rw [rpartS, rif_0 zb7, rif_0 zb34, rif_0 zb52, rif_0 zb70, rif_0 zb88, rif_1 za106, rlendS, rif_1 za117, runtS, rif_0 zb132] at hp; exact hp)
                · --k132.1
                  refine g_if_eq (n := 138) (t := 154) C dX11_readPart_135 rfl (by decide) (fun zc135 => ?_) (fun zc135 => ?_)
                  rotate_left
                  · exact absurd zc135 (by decide)
                  refine g_iconst (n := 155) (v := 0) C dX11_readPart_154 rfl (by decide) ?_
                  refine g_zret C dX11_readPart_155 (by decide) (by decide) (by rfl) ?_
                  first | (rw [rpartS, rif_0 zb7, rif_0 zb34, rif_0 zb52, rif_0 zb70, rif_0 zb88, rif_1 za106, rlendS, rif_1 za117, runtS, rif_1 za132, rnum_0 zb144] at hp; exact hp) | (rw [rpartS, rif_0 zb7, rif_0 zb34, rif_0 zb52, rif_0 zb70, rif_0 zb88, rif_1 za106, rlendS, rif_1 za117, runtS, rif_0 zb132] at hp; exact hp)
              · --k117.1
                refine g_if_ne (n := 123) (t := 125) C dX11_readPart_120 rfl (by decide) (fun zc120 => ?_) (fun zc120 => ?_)
                · exact absurd zc120 (by decide)
                refine g_iconst (n := 124) (v := 0) C dX11_readPart_123 rfl (by decide) ?_
                refine g_zret C dX11_readPart_124 (by decide) (by decide) (by rfl) ?_
                first | (rw [rpartS, rif_0 zb7, rif_0 zb34, rif_0 zb52, rif_0 zb70, rif_0 zb88, rif_1 za106, rlendS, rif_0 zb117] at hp; exact hp) | (rw [rpartS, rif_0 zb7, rif_0 zb34, rif_0 zb52, rif_0 zb70, rif_0 zb88, rif_0 zb106] at hp; exact hp)
            · --k106.1
              refine g_if_eq (n := 112) (t := 123) C dX11_readPart_109 rfl (by decide) (fun zc109 => ?_) (fun zc109 => ?_)
              rotate_left
              · exact absurd zc109 (by decide)
              refine g_iconst (n := 124) (v := 0) C dX11_readPart_123 rfl (by decide) ?_
              refine g_zret C dX11_readPart_124 (by decide) (by decide) (by rfl) ?_
              first | (rw [rpartS, rif_0 zb7, rif_0 zb34, rif_0 zb52, rif_0 zb70, rif_0 zb88, rif_1 za106, rlendS, rif_0 zb117] at hp; exact hp) | (rw [rpartS, rif_0 zb7, rif_0 zb34, rif_0 zb52, rif_0 zb70, rif_0 zb88, rif_0 zb106] at hp; exact hp)
