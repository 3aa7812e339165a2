/-- .. of all pieces weighed before: the right end r, the left one m below it, the bottom b, the top k below it -/
def adn (Z C W F : Nat → Int32) (Wd H r m b k : Nat) : Prop := ∀ l' t' r' b', l' ≤ r' → t' ≤ b' → r' < Wd → b' < H → (r' < r ∨ (r' = r ∧ (r < l' + m ∨ (l' + m = r ∧ (b' < b ∨ (b' = b ∧ b < t' + k)))))) → cdn Z C W F l' t' (r' - l') (b' - t')
/-- .. of all pieces -/
def alldn (Z C W F : Nat → Int32) (Wd H : Nat) : Prop := ∀ l' t' r' b', l' ≤ r' → t' ≤ b' → r' < Wd → b' < H → cdn Z C W F l' t' (r' - l') (b' - t')
theorem adn_s {Z C W F C' W' F' : Nat → Int32} {Wd H r m b k : Nat} (h : adn Z C W F Wd H r m b k) (hm : m ≤ r) (hk : k ≤ b) (hr : r < Wd) (hb : b < H) (hW : Wd ≤ 10) (hH : H ≤ 8) (hq : ∀ q, q ≠ cpl (r - m) (b - k) (r - m + m) (b - k + k) → C' q = C q ∧ W' q = W q ∧ F' q = F q) (hd : cdn Z C' W' F' (r - m) (b - k) m k) : adn Z C' W' F' Wd H r m b (k + 1) := by
  intro l' t' r' b' h1 h2 h3 h4 hlex
  by_cases c : l' = r - m ∧ t' = b - k ∧ r' = r ∧ b' = b
  · obtain ⟨rfl, rfl, rfl, rfl⟩ := c
    rw [show r' - (r' - m) = m from by omega, show b' - (b' - k) = k from by omega]
    exact hd
  · have h0 := h l' t' r' b' h1 h2 h3 h4 (by omega)
    have hne : cpl l' t' (l' + (r' - l')) (t' + (b' - t')) ≠ cpl (r - m) (b - k) (r - m + m) (b - k + k) := fun z => by
      have := cpl_inj (by omega) (by omega) (by omega) (by omega) (by omega) (by omega) (by omega) (by omega) z
      omega
    unfold cdn at h0 ⊢
    rw [(hq _ hne).1, (hq _ hne).2.1, (hq _ hne).2.2]
    exact h0
theorem adn_b {Z C W F : Nat → Int32} {Wd H r m b : Nat} (h : adn Z C W F Wd H r m b (b + 1)) : adn Z C W F Wd H r m (b + 1) 0 := fun l' t' r' b' h1 h2 h3 h4 hlex => h l' t' r' b' h1 h2 h3 h4 (by omega)
theorem adn_m {Z C W F : Nat → Int32} {Wd H r m : Nat} (h : adn Z C W F Wd H r m H 0) : adn Z C W F Wd H r (m + 1) 0 0 := fun l' t' r' b' h1 h2 h3 h4 hlex => h l' t' r' b' h1 h2 h3 h4 (by omega)
theorem adn_r {Z C W F : Nat → Int32} {Wd H r : Nat} (h : adn Z C W F Wd H r (r + 1) 0 0) : adn Z C W F Wd H (r + 1) 0 0 0 := fun l' t' r' b' h1 h2 h3 h4 hlex => h l' t' r' b' h1 h2 h3 h4 (by omega)
theorem adn_all {Z C W F : Nat → Int32} {Wd H : Nat} (h : adn Z C W F Wd H Wd 0 0 0) : alldn Z C W F Wd H := fun l' t' r' b' h1 h2 h3 h4 => h l' t' r' b' h1 h2 h3 h4 (Or.inl h3)
theorem adn_0 {Z C W F : Nat → Int32} {Wd H : Nat} : adn Z C W F Wd H 0 0 0 0 := fun l' t' r' b' h1 h2 h3 h4 hlex => by omega
theorem adn_v {Z C W F : Nat → Int32} {Wd H r m b k : Nat} (h : adn Z C W F Wd H r m b k) (hm : m ≤ r) (hk : k ≤ b) (hr : r < Wd) (hb : b < H) : (∀ q, q < m → cdn Z C W F (r - m) (b - k) q k ∧ cdn Z C W F (r - m + q + 1) (b - k) (m - q - 1) k) ∧ (∀ q, q < k → cdn Z C W F (r - m) (b - k) m q ∧ cdn Z C W F (r - m) (b - k + q + 1) m (k - q - 1)) := by
  refine ⟨fun q hq => ⟨?_, ?_⟩, fun q hq => ⟨?_, ?_⟩⟩
  · have := h (r - m) (b - k) (r - m + q) b (by omega) (by omega) (by omega) hb (by omega)
    rw [show r - m + q - (r - m) = q from by omega, show b - (b - k) = k from by omega] at this
    exact this
  · have := h (r - m + q + 1) (b - k) r b (by omega) (by omega) hr hb (by omega)
    rw [show r - (r - m + q + 1) = m - q - 1 from by omega, show b - (b - k) = k from by omega] at this
    exact this
  · have := h (r - m) (b - k) r (b - k + q) (by omega) (by omega) hr (by omega) (by omega)
    rw [show r - (r - m) = m from by omega, show b - k + q - (b - k) = q from by omega] at this
    exact this
  · have := h (r - m) (b - k + q + 1) r b (by omega) (by omega) hr hb (by omega)
    rw [show r - (r - m) = m from by omega, show b - (b - k + q + 1) = k - q - 1 from by omega] at this
    exact this
theorem dnz : ∀ a, a ≤ 11 → (nI a - 1 < 0 ↔ a = 0) := by decide +kernel
theorem dns : ∀ a, a ≤ 11 → nI a + Int32.ofInt (-1) = nI a - 1 := by decide +kernel
theorem dn1 {r m : Nat} (h : m ≤ r) : nI (r + 1 - m) - 1 = nI (r - m) := by
  rw [show r + 1 - m = (r - m) + 1 from by omega]
  exact n_pred rfl (by omega)
theorem dnb {r m : Nat} (hr : r ≤ 10) : nI (r - m) + Int32.ofInt (-1) = nI (r + 1 - (m + 1)) - 1 := by
  rw [dns _ (by omega), show r + 1 - (m + 1) = r - m from by omega]
theorem dX7_weighAll_0 : decode cX7_weighAll 0 = .ok (.aload_n 0, 1) := by decide +kernel
theorem dX7_weighAll_1 : decode cX7_weighAll 1 = .ok (.getfield 30, 3) := by decide +kernel
theorem dX7_weighAll_4 : decode cX7_weighAll 4 = .ok (.ifCond .eq 4, 3) := by decide +kernel
theorem dX7_weighAll_7 : decode cX7_weighAll 7 = .ok (.return_, 1) := by decide +kernel
theorem dX7_weighAll_8 : decode cX7_weighAll 8 = .ok (.iconst 0, 1) := by decide +kernel
theorem dX7_weighAll_9 : decode cX7_weighAll 9 = .ok (.istore_n 1, 1) := by decide +kernel
theorem dX7_weighAll_10 : decode cX7_weighAll 10 = .ok (.iload_n 1, 1) := by decide +kernel
theorem dX7_weighAll_11 : decode cX7_weighAll 11 = .ok (.aload_n 0, 1) := by decide +kernel
theorem dX7_weighAll_12 : decode cX7_weighAll 12 = .ok (.getfield 23, 3) := by decide +kernel
theorem dX7_weighAll_15 : decode cX7_weighAll 15 = .ok (.if_icmp .ge 60, 3) := by decide +kernel
theorem dX7_weighAll_18 : decode cX7_weighAll 18 = .ok (.iload_n 1, 1) := by decide +kernel
theorem dX7_weighAll_19 : decode cX7_weighAll 19 = .ok (.istore_n 2, 1) := by decide +kernel
theorem dX7_weighAll_20 : decode cX7_weighAll 20 = .ok (.iload_n 2, 1) := by decide +kernel
theorem dX7_weighAll_21 : decode cX7_weighAll 21 = .ok (.ifCond .lt 48, 3) := by decide +kernel
theorem dX7_weighAll_24 : decode cX7_weighAll 24 = .ok (.iconst 0, 1) := by decide +kernel
theorem dX7_weighAll_25 : decode cX7_weighAll 25 = .ok (.istore_n 3, 1) := by decide +kernel
theorem dX7_weighAll_26 : decode cX7_weighAll 26 = .ok (.iload_n 3, 1) := by decide +kernel
theorem dX7_weighAll_27 : decode cX7_weighAll 27 = .ok (.aload_n 0, 1) := by decide +kernel
theorem dX7_weighAll_28 : decode cX7_weighAll 28 = .ok (.getfield 27, 3) := by decide +kernel
theorem dX7_weighAll_31 : decode cX7_weighAll 31 = .ok (.if_icmp .ge 32, 3) := by decide +kernel
theorem dX7_weighAll_34 : decode cX7_weighAll 34 = .ok (.iload_n 3, 1) := by decide +kernel
theorem dX7_weighAll_35 : decode cX7_weighAll 35 = .ok (.istore 4, 2) := by decide +kernel
theorem dX7_weighAll_37 : decode cX7_weighAll 37 = .ok (.iload 4, 2) := by decide +kernel
theorem dX7_weighAll_39 : decode cX7_weighAll 39 = .ok (.ifCond .lt 18, 3) := by decide +kernel
theorem dX7_weighAll_42 : decode cX7_weighAll 42 = .ok (.aload_n 0, 1) := by decide +kernel
theorem dX7_weighAll_43 : decode cX7_weighAll 43 = .ok (.iload_n 2, 1) := by decide +kernel
theorem dX7_weighAll_44 : decode cX7_weighAll 44 = .ok (.iload 4, 2) := by decide +kernel
theorem dX7_weighAll_46 : decode cX7_weighAll 46 = .ok (.iload_n 1, 1) := by decide +kernel
theorem dX7_weighAll_47 : decode cX7_weighAll 47 = .ok (.iload_n 3, 1) := by decide +kernel
theorem dX7_weighAll_48 : decode cX7_weighAll 48 = .ok (.invokevirtual 41, 3) := by decide +kernel
theorem dX7_weighAll_51 : decode cX7_weighAll 51 = .ok (.iinc 4 (-1), 3) := by decide +kernel
theorem dX7_weighAll_54 : decode cX7_weighAll 54 = .ok (.goto (-17), 3) := by decide +kernel
theorem dX7_weighAll_57 : decode cX7_weighAll 57 = .ok (.iinc 3 1, 3) := by decide +kernel
theorem dX7_weighAll_60 : decode cX7_weighAll 60 = .ok (.goto (-34), 3) := by decide +kernel
theorem dX7_weighAll_63 : decode cX7_weighAll 63 = .ok (.iinc 2 (-1), 3) := by decide +kernel
theorem dX7_weighAll_66 : decode cX7_weighAll 66 = .ok (.goto (-46), 3) := by decide +kernel
theorem dX7_weighAll_69 : decode cX7_weighAll 69 = .ok (.iinc 1 1, 3) := by decide +kernel
theorem dX7_weighAll_72 : decode cX7_weighAll 72 = .ok (.goto (-62), 3) := by decide +kernel
theorem dX7_weighAll_75 : decode cX7_weighAll 75 = .ok (.aload_n 0, 1) := by decide +kernel
theorem dX7_weighAll_76 : decode cX7_weighAll 76 = .ok (.iconst 1, 1) := by decide +kernel
theorem dX7_weighAll_77 : decode cX7_weighAll 77 = .ok (.putfield 30, 3) := by decide +kernel
theorem dX7_weighAll_80 : decode cX7_weighAll 80 = .ok (.return_, 1) := by decide +kernel
set_option maxHeartbeats 4000000 in
set_option maxRecDepth 20000 in
theorem cc_weighAll {l : Launch} {E : Ev} {P : Value → AH → Prop}  {g fl cl wo fe : Nat} {z : Int32} {Wd H9 : Nat} {h : AH} (hg : h g = some (.inr (7, [.ref fl, .ref cl, .ref wo, .ref fe, .int (nI Wd), .int (nI H9), .int z]))) {Cf Wf Ff Z : Nat → Int32} (hc : h cl = some (.inl (E.2.2 2, 1980, .inl Cf))) (hw : h wo = some (.inl (E.2.2 1, 1980, .inl Wf))) (hf : h fe = some (.inl (E.2.2 1, 1980, .inl Ff))) (hfl : h fl = some (.inl (E.2.2 2, 80, .inl Z))) (A0 : lA [(cl, dE), (wo, dE), (fe, dE)]) (hgn : g ∉ [cl, wo, fe]) (hfn : fl ∉ [cl, wo, fe]) (hW : Wd ≤ 10) (hH : H9 ≤ 8) (k1 : ¬ z = 0 → P .null h) (k0 : z = 0 → ∀ C1 W1 F1 : Nat → Int32, alldn Z C1 W1 F1 Wd H9 → P .null (LW [(cl, .inl (E.2.2 2, 1980, .inl (C1))), (wo, .inl (E.2.2 1, 1980, .inl (W1))), (fe, .inl (E.2.2 1, 1980, .inl (F1)))] (hset h g (.inr (7, [.ref fl, .ref cl, .ref wo, .ref fe, .int (nI Wd), .int (nI H9), .int 1]))))) : Mt l E yX7_weighAll cX7_weighAll 5 none 4 95 0 0 [.ref g] (h) P := by
  refine Mt.of (by decide) (Nat.le_of_ble_eq_true rfl) ?_
  intro K hK hR C
  refine g_aload_n (n := 1) C dX7_weighAll_0 rfl rfl ?_
  refine g_get (n := 4) (T := TX7) C 6 dX7_weighAll_1 rfl hg rfl rfl (by decide) inX7 w_217 rfl ?_
  refine g_if_eq (n := 7) (t := 8) C dX7_weighAll_4 rfl (by decide) (fun zc4 => ?_) (fun zc4 => ?_)
  · --t4
    rw [LW_is3 hc hw hf]
    refine g_iconst (n := 9) (v := 0) C dX7_weighAll_8 rfl (by decide) ?_
    refine g_istore_n (n := 10) C dX7_weighAll_9 rfl (by decide) ?_
    have lpr : ∀ p : Nat, p ≤ Wd → ∀ (C1 W1 F1 : Nat → Int32) (t1 : Int32), adn Z C1 W1 F1 Wd H9 p 0 0 0 → t1 = nI p → G K E 5 (QM K E none 0 0 P) 0 0 10 [(0, .ref g), (1, .int t1)] [] (LW [(cl, .inl (E.2.2 2, 1980, .inl (C1))), (wo, .inl (E.2.2 1, 1980, .inl (W1))), (fe, .inl (E.2.2 1, 1980, .inl (F1)))] h) := by
      refine loopN (fun p => ∀ (C1 W1 F1 : Nat → Int32) (t1 : Int32), adn Z C1 W1 F1 Wd H9 p 0 0 0 → t1 = nI p → G K E 5 (QM K E none 0 0 P) 0 0 10 [(0, .ref g), (1, .int t1)] [] (LW [(cl, .inl (E.2.2 2, 1980, .inl (C1))), (wo, .inl (E.2.2 1, 1980, .inl (W1))), (fe, .inl (E.2.2 1, 1980, .inl (F1)))] h)) (Wd) ?_
      intro p hlep ihp C1 W1 F1 t1 e1 et
      subst et
      refine g_iload_n (n := 11) C dX7_weighAll_10 rfl rfl ?_
      refine g_aload_n (n := 12) C dX7_weighAll_11 rfl rfl ?_
      refine b_get (n := 15) (T := TX7) 4 C dX7_weighAll_12 rfl hg hgn rfl rfl (by decide) inX7 w_215 rfl ?_
      refine g_icmp_ge (n := 18) (t := 75) C dX7_weighAll_15 rfl (by decide) (fun zc15 => ?_) (fun zc15 => ?_)
      · --t15
        have hpe : p = Wd := i_eq (n := Wd) rfl zc15 hlep (by omega)
        refine g_aload_n (n := 76) C dX7_weighAll_75 rfl rfl ?_
        refine g_iconst (n := 77) (v := 1) C dX7_weighAll_76 rfl (by decide) ?_
        refine b_put (n := 80) (T := TX7) (ty0 := tyX7) 6 C dX7_weighAll_77 rfl hg hgn rfl (by decide) inX7 w_217 rfl tyX7_ok nmX7 rfl rfl rfl rfl (by show 6 < 7; decide) ?_
        dsimp only [List.set]
        refine g_vret C dX7_weighAll_80 (by decide) (by decide) ?_
        exact k0 zc4 _ _ _ (adn_all (by rw [hpe] at e1; exact e1))
      · --f15
        refine g_iload_n (n := 19) C dX7_weighAll_18 rfl rfl ?_
        refine g_istore_n (n := 20) C dX7_weighAll_19 rfl (by decide) ?_
        have lpm : ∀ m : Nat, m ≤ p + 1 → ∀ (C2 W2 F2 : Nat → Int32) (t2 : Int32), adn Z C2 W2 F2 Wd H9 p m 0 0 → t2 = nI (p + 1 - m) - 1 → G K E 5 (QM K E none 0 0 P) 0 0 20 [(0, .ref g), (1, .int (nI p)), (2, .int t2)] [] (LW [(cl, .inl (E.2.2 2, 1980, .inl (C2))), (wo, .inl (E.2.2 1, 1980, .inl (W2))), (fe, .inl (E.2.2 1, 1980, .inl (F2)))] h) := by
          refine loopN (fun m => ∀ (C2 W2 F2 : Nat → Int32) (t2 : Int32), adn Z C2 W2 F2 Wd H9 p m 0 0 → t2 = nI (p + 1 - m) - 1 → G K E 5 (QM K E none 0 0 P) 0 0 20 [(0, .ref g), (1, .int (nI p)), (2, .int t2)] [] (LW [(cl, .inl (E.2.2 2, 1980, .inl (C2))), (wo, .inl (E.2.2 1, 1980, .inl (W2))), (fe, .inl (E.2.2 1, 1980, .inl (F2)))] h)) (p + 1) ?_
          intro m hlem ihm C2 W2 F2 t2 e2 et
          subst et
          refine g_iload_n (n := 21) C dX7_weighAll_20 rfl rfl ?_
          refine g_if_lt (n := 24) (t := 69) C dX7_weighAll_21 rfl (by decide) (fun zc21 => ?_) (fun zc21 => ?_)
          · --t21
            have hmp2 : m = p + 1 := by
              have := (dnz (p + 1 - m) (by have := (i_lt (n := Wd) rfl zc15 hlep (by omega)); omega)).mp zc21
              omega
            refine g_iinc (n := 72) C dX7_weighAll_69 rfl rfl rfl (by decide) ?_
            refine g_goto (t := 10) C dX7_weighAll_72 (by decide) ?_
            exact g_lv [0, 1] rfl (ihp (i_lt (n := Wd) rfl zc15 hlep (by omega)) _ _ _ _ (adn_r (by rw [show p + 1 = m from by omega]; exact e2)) (nI_1 p))
          · --f21
            have hpW : p < Wd := (i_lt (n := Wd) rfl zc15 hlep (by omega))
            have hmp : m ≤ p := by
              by_cases q : m ≤ p
              · exact q
              · exact absurd ((dnz (p + 1 - m) (by omega)).mpr (by omega)) zc21
            rw [dn1 hmp]
            refine g_iconst (n := 25) (v := 0) C dX7_weighAll_24 rfl (by decide) ?_
            refine g_istore_n (n := 26) C dX7_weighAll_25 rfl (by decide) ?_
            have lpb : ∀ b : Nat, b ≤ H9 → ∀ (C3 W3 F3 : Nat → Int32) (t3 : Int32), adn Z C3 W3 F3 Wd H9 p m b 0 → t3 = nI b → G K E 5 (QM K E none 0 0 P) 0 0 26 [(0, .ref g), (1, .int (nI p)), (2, .int (nI (p - m))), (3, .int t3)] [] (LW [(cl, .inl (E.2.2 2, 1980, .inl (C3))), (wo, .inl (E.2.2 1, 1980, .inl (W3))), (fe, .inl (E.2.2 1, 1980, .inl (F3)))] h) := by
              refine loopN (fun b => ∀ (C3 W3 F3 : Nat → Int32) (t3 : Int32), adn Z C3 W3 F3 Wd H9 p m b 0 → t3 = nI b → G K E 5 (QM K E none 0 0 P) 0 0 26 [(0, .ref g), (1, .int (nI p)), (2, .int (nI (p - m))), (3, .int t3)] [] (LW [(cl, .inl (E.2.2 2, 1980, .inl (C3))), (wo, .inl (E.2.2 1, 1980, .inl (W3))), (fe, .inl (E.2.2 1, 1980, .inl (F3)))] h)) (H9) ?_
              intro b hleb ihb C3 W3 F3 t3 e3 et
              subst et
              refine g_iload_n (n := 27) C dX7_weighAll_26 rfl rfl ?_
              refine g_aload_n (n := 28) C dX7_weighAll_27 rfl rfl ?_
              refine b_get (n := 31) (T := TX7) 5 C dX7_weighAll_28 rfl hg hgn rfl rfl (by decide) inX7 w_216 rfl ?_
              refine g_icmp_ge (n := 34) (t := 63) C dX7_weighAll_31 rfl (by decide) (fun zc31 => ?_) (fun zc31 => ?_)
              · --t31
                have hbe : b = H9 := i_eq (n := H9) rfl zc31 hleb (by omega)
                refine g_iinc (n := 66) C dX7_weighAll_63 rfl rfl rfl (by decide) ?_
                refine g_goto (t := 20) C dX7_weighAll_66 (by decide) ?_
                exact g_lv [0, 1, 2] rfl (ihm (by omega) _ _ _ _ (adn_m (by have e9 := e3; rw [hbe] at e9; exact e9)) (dnb (by have := (i_lt (n := Wd) rfl zc15 hlep (by omega)); omega)))
              · --f31
                refine g_iload_n (n := 35) C dX7_weighAll_34 rfl rfl ?_
                refine g_istore (n := 37) C dX7_weighAll_35 rfl (by decide) ?_
                have lpk : ∀ k : Nat, k ≤ b + 1 → ∀ (C4 W4 F4 : Nat → Int32) (t4 : Int32), adn Z C4 W4 F4 Wd H9 p m b k → t4 = nI (b + 1 - k) - 1 → G K E 5 (QM K E none 0 0 P) 0 0 37 [(0, .ref g), (1, .int (nI p)), (2, .int (nI (p - m))), (3, .int (nI b)), (4, .int t4)] [] (LW [(cl, .inl (E.2.2 2, 1980, .inl (C4))), (wo, .inl (E.2.2 1, 1980, .inl (W4))), (fe, .inl (E.2.2 1, 1980, .inl (F4)))] h) := by
                  refine loopN (fun k => ∀ (C4 W4 F4 : Nat → Int32) (t4 : Int32), adn Z C4 W4 F4 Wd H9 p m b k → t4 = nI (b + 1 - k) - 1 → G K E 5 (QM K E none 0 0 P) 0 0 37 [(0, .ref g), (1, .int (nI p)), (2, .int (nI (p - m))), (3, .int (nI b)), (4, .int t4)] [] (LW [(cl, .inl (E.2.2 2, 1980, .inl (C4))), (wo, .inl (E.2.2 1, 1980, .inl (W4))), (fe, .inl (E.2.2 1, 1980, .inl (F4)))] h)) (b + 1) ?_
                  intro k hlek ihk C4 W4 F4 t4 e4 et
                  subst et
                  refine g_iload (n := 39) C dX7_weighAll_37 rfl rfl ?_
                  refine g_if_lt (n := 42) (t := 57) C dX7_weighAll_39 rfl (by decide) (fun zc39 => ?_) (fun zc39 => ?_)
                  · --t39
                    have hkb2 : k = b + 1 := by
                      have := (dnz (b + 1 - k) (by have := (i_lt (n := H9) rfl zc31 hleb (by omega)); omega)).mp zc39
                      omega
                    refine g_iinc (n := 60) C dX7_weighAll_57 rfl rfl rfl (by decide) ?_
                    refine g_goto (t := 26) C dX7_weighAll_60 (by decide) ?_
                    exact g_lv [0, 1, 2, 3] rfl (ihb (i_lt (n := H9) rfl zc31 hleb (by omega)) _ _ _ _ (adn_b (by rw [show b + 1 = k from by omega]; exact e4)) (nI_1 b))
                  · --f39
                    have hbH : b < H9 := (i_lt (n := H9) rfl zc31 hleb (by omega))
                    have hkb : k ≤ b := by
                      by_cases q : k ≤ b
                      · exact q
                      · exact absurd ((dnz (b + 1 - k) (by omega)).mpr (by omega)) zc39
                    rw [dn1 hkb]
                    have hvh := adn_v e4 hmp hkb hpW hbH
                    refine g_aload_n (n := 43) C dX7_weighAll_42 rfl rfl ?_
                    refine g_iload_n (n := 44) C dX7_weighAll_43 rfl rfl ?_
                    refine g_iload (n := 46) C dX7_weighAll_44 rfl rfl ?_
                    refine g_iload_n (n := 47) C dX7_weighAll_46 rfl rfl ?_
                    refine g_iload_n (n := 48) C dX7_weighAll_47 rfl rfl ?_
                    refine g_callV (n := 51) (As := [.int (nI (p - m)), .int (nI (b - k)), .int (nI (p - m + m)), .int (nI (b - k + k))]) C dX7_weighAll_48 rfl mw_X7_weigh w_338 (g_recv (ci := 7) C (lnb hg (by exact hgn)) rfl) (by rw [Nat.sub_add_cancel hmp, Nat.sub_add_cancel hkb]; rfl) rfl (room hR rfl) (cc_weigh (lnb hg (by exact hgn)) (LW_at (by exact A0) 0 rfl) (LW_at (by exact A0) 1 rfl) (LW_at (by exact A0) 2 rfl) (lnb hfl (by exact hfn)) A0 hgn hfn (by omega) (by omega) hvh.1 hvh.2 (fun C5 W5 F5 hq9 hd9 => ?_))
                    rw [show ∀ x y z x1 y1 z1 : va_E, LW [(cl, x1), (wo, y1), (fe, z1)] (LW [(cl, x), (wo, y), (fe, z)] h) = LW [(cl, x1), (wo, y1), (fe, z1)] h from fun _ _ _ _ _ _ => LW_LW rfl]
                    refine g_iinc (n := 54) C dX7_weighAll_51 rfl rfl rfl (by decide) ?_
                    refine g_goto (t := 37) C dX7_weighAll_54 (by decide) ?_
                    exact g_lv [0, 1, 2, 3, 4] rfl (ihk (by omega) _ _ _ _ (adn_s e4 hmp hkb hpW hbH hW hH hq9 hd9) (dnb (by omega)))
                exact g_lv [0, 1, 2, 3, 4] rfl (lpk 0 (Nat.zero_le _) _ _ _ _ e3 (by rw [Nat.sub_zero]; exact (n_pred (n := b + 1) rfl (by omega)).symm))
            exact g_lv [0, 1, 2, 3] rfl (lpb 0 (Nat.zero_le _) _ _ _ _ e2 rfl)
        exact g_lv [0, 1, 2] rfl (lpm 0 (Nat.zero_le _) _ _ _ _ e1 (by rw [Nat.sub_zero]; exact (n_pred (n := p + 1) rfl (by omega)).symm))
    exact g_lv [0, 1] rfl (lpr 0 (Nat.zero_le _) _ _ _ _ adn_0 rfl)
  · --f4
    refine g_vret C dX7_weighAll_7 (by decide) (by decide) ?_
    exact k1 zc4
theorem dX7_greatestWorth_0 : decode cX7_greatestWorth 0 = .ok (.aload_n 0, 1) := by decide +kernel
theorem dX7_greatestWorth_1 : decode cX7_greatestWorth 1 = .ok (.invokevirtual 34, 3) := by decide +kernel
theorem dX7_greatestWorth_4 : decode cX7_greatestWorth 4 = .ok (.aload_n 0, 1) := by decide +kernel
theorem dX7_greatestWorth_5 : decode cX7_greatestWorth 5 = .ok (.getfield 16, 3) := by decide +kernel
theorem dX7_greatestWorth_8 : decode cX7_greatestWorth 8 = .ok (.iconst 0, 1) := by decide +kernel
theorem dX7_greatestWorth_9 : decode cX7_greatestWorth 9 = .ok (.iconst 0, 1) := by decide +kernel
theorem dX7_greatestWorth_10 : decode cX7_greatestWorth 10 = .ok (.aload_n 0, 1) := by decide +kernel
theorem dX7_greatestWorth_11 : decode cX7_greatestWorth 11 = .ok (.getfield 23, 3) := by decide +kernel
theorem dX7_greatestWorth_14 : decode cX7_greatestWorth 14 = .ok (.iconst 1, 1) := by decide +kernel
theorem dX7_greatestWorth_15 : decode cX7_greatestWorth 15 = .ok (.isub, 1) := by decide +kernel
theorem dX7_greatestWorth_16 : decode cX7_greatestWorth 16 = .ok (.aload_n 0, 1) := by decide +kernel
theorem dX7_greatestWorth_17 : decode cX7_greatestWorth 17 = .ok (.getfield 27, 3) := by decide +kernel
theorem dX7_greatestWorth_20 : decode cX7_greatestWorth 20 = .ok (.iconst 1, 1) := by decide +kernel
theorem dX7_greatestWorth_21 : decode cX7_greatestWorth 21 = .ok (.isub, 1) := by decide +kernel
theorem dX7_greatestWorth_22 : decode cX7_greatestWorth 22 = .ok (.invokestatic 37, 3) := by decide +kernel
theorem dX7_greatestWorth_25 : decode cX7_greatestWorth 25 = .ok (.iaload, 1) := by decide +kernel
theorem dX7_greatestWorth_26 : decode cX7_greatestWorth 26 = .ok (.ireturn, 1) := by decide +kernel
set_option maxHeartbeats 1000000 in
set_option maxRecDepth 20000 in
theorem cc_worth {l : Launch} {E : Ev} {P : Value → AH → Prop}  {g fl cl wo fe : Nat} {z : Int32} {Wd H9 : Nat} {h : AH} (hg : h g = some (.inr (7, [.ref fl, .ref cl, .ref wo, .ref fe, .int (nI Wd), .int (nI H9), .int z]))) {Cf Wf Ff Z : Nat → Int32} (hc : h cl = some (.inl (E.2.2 2, 1980, .inl Cf))) (hw : h wo = some (.inl (E.2.2 1, 1980, .inl Wf))) (hf : h fe = some (.inl (E.2.2 1, 1980, .inl Ff))) (hfl : h fl = some (.inl (E.2.2 2, 80, .inl Z))) (A0 : lA [(cl, dE), (wo, dE), (fe, dE)]) (hgn : g ∉ [cl, wo, fe]) (hfn : fl ∉ [cl, wo, fe]) (hW : Wd ≤ 10) (hH : H9 ≤ 8) (hdn : ¬ z = 0 → alldn Z Cf Wf Ff Wd H9) (hW1 : 1 ≤ Wd) (hH1 : 1 ≤ H9) (k1 : ¬ z = 0 → P (.int (rT Z 0 0 (Wd - 1) (H9 - 1)).1) h) (k0 : z = 0 → ∀ C1 W1 F1 : Nat → Int32, alldn Z C1 W1 F1 Wd H9 → P (.int (rT Z 0 0 (Wd - 1) (H9 - 1)).1) (LW [(cl, .inl (E.2.2 2, 1980, .inl (C1))), (wo, .inl (E.2.2 1, 1980, .inl (W1))), (fe, .inl (E.2.2 1, 1980, .inl (F1)))] (hset h g (.inr (7, [.ref fl, .ref cl, .ref wo, .ref fe, .int (nI Wd), .int (nI H9), .int 1]))))) : Mt l E yX7_greatestWorth cX7_greatestWorth 1 (some .int) 5 119 0 0 [.ref g] (h) P := by
  refine Mt.of (by decide) (Nat.le_of_ble_eq_true rfl) ?_
  intro K hK hR C
  refine g_aload_n (n := 1) C dX7_greatestWorth_0 rfl rfl ?_
  refine g_callV (n := 4) (As := []) C dX7_greatestWorth_1 rfl mw_X7_weighAll w_334 (g_recv C hg rfl) rfl rfl (room hR rfl) (cc_weighAll hg hc hw hf hfl A0 hgn hfn hW hH (fun za1 => ?_) (fun zb1 C1 W1 F1 hdn9 => ?_))
  · --k1.0
    have hdn9 := hdn za1
    refine g_aload_n (n := 5) C dX7_greatestWorth_4 rfl rfl ?_
    refine g_get (n := 8) (T := TX7) C 2 dX7_greatestWorth_5 rfl hg rfl rfl (by decide) inX7 w_213 rfl ?_
    refine g_iconst (n := 9) (v := 0) C dX7_greatestWorth_8 rfl (by decide) ?_
    refine g_iconst (n := 10) (v := 0) C dX7_greatestWorth_9 rfl (by decide) ?_
    refine g_aload_n (n := 11) C dX7_greatestWorth_10 rfl rfl ?_
    refine g_get (n := 14) (T := TX7) C 4 dX7_greatestWorth_11 rfl hg rfl rfl (by decide) inX7 w_215 rfl ?_
    refine g_iconst (n := 15) (v := 1) C dX7_greatestWorth_14 rfl (by decide) ?_
    refine g_isub (n := 16) C dX7_greatestWorth_15 rfl ?_
    refine g_aload_n (n := 17) C dX7_greatestWorth_16 rfl rfl ?_
    refine g_get (n := 20) (T := TX7) C 5 dX7_greatestWorth_17 rfl hg rfl rfl (by decide) inX7 w_216 rfl ?_
    refine g_iconst (n := 21) (v := 1) C dX7_greatestWorth_20 rfl (by decide) ?_
    refine g_isub (n := 22) C dX7_greatestWorth_21 rfl ?_
    rw [n_pred (n := Wd) rfl hW1, n_pred (n := H9) rfl hH1]
    refine g_callS (n := 25) (As := [.int _, .int _, .int _, .int _]) C dX7_greatestWorth_22 rfl mw_X7_place w_342 rfl rfl (room hR rfl) (cc_place (l9 := 0) (t9 := 0) (r9 := Wd - 1) (b9 := H9 - 1) (by omega) (by omega) (by omega) (by omega) ?_)
    have hgot := hdn9 0 0 (Wd - 1) (H9 - 1) (by omega) (by omega) (by omega) (by omega)
    have hgot2 := hgot.2.1
    simp only [Nat.zero_add, Nat.sub_zero] at hgot2
    refine f_iald (n := 26) (v := (rT Z 0 0 (Wd - 1) (H9 - 1)).1) (cpl 0 0 (Wd - 1) (H9 - 1)) C dX7_greatestWorth_25 rfl hw rfl (cpl_lt (by omega) (by omega) (by omega) (by omega)) (by decide) hgot2 ?_
    refine g_iret C dX7_greatestWorth_26 (by decide) (by decide) ?_
    first | exact k1 za1 | exact k0 zb1 _ _ _ hdn9
  · --k1.1
    have hg9 : hset h g (.inr (7, [.ref fl, .ref cl, .ref wo, .ref fe, .int (nI Wd), .int (nI H9), .int 1])) g = some (.inr (7, [.ref fl, .ref cl, .ref wo, .ref fe, .int (nI Wd), .int (nI H9), .int 1])) := hset_same _ _ _
    refine g_aload_n (n := 5) C dX7_greatestWorth_4 rfl rfl ?_
    refine b_get (n := 8) (T := TX7) 2 C dX7_greatestWorth_5 rfl hg9 hgn rfl rfl (by decide) inX7 w_213 rfl ?_
    refine g_iconst (n := 9) (v := 0) C dX7_greatestWorth_8 rfl (by decide) ?_
    refine g_iconst (n := 10) (v := 0) C dX7_greatestWorth_9 rfl (by decide) ?_
    refine g_aload_n (n := 11) C dX7_greatestWorth_10 rfl rfl ?_
    refine b_get (n := 14) (T := TX7) 4 C dX7_greatestWorth_11 rfl hg9 hgn rfl rfl (by decide) inX7 w_215 rfl ?_
    refine g_iconst (n := 15) (v := 1) C dX7_greatestWorth_14 rfl (by decide) ?_
    refine g_isub (n := 16) C dX7_greatestWorth_15 rfl ?_
    refine g_aload_n (n := 17) C dX7_greatestWorth_16 rfl rfl ?_
    refine b_get (n := 20) (T := TX7) 5 C dX7_greatestWorth_17 rfl hg9 hgn rfl rfl (by decide) inX7 w_216 rfl ?_
    refine g_iconst (n := 21) (v := 1) C dX7_greatestWorth_20 rfl (by decide) ?_
    refine g_isub (n := 22) C dX7_greatestWorth_21 rfl ?_
    rw [n_pred (n := Wd) rfl hW1, n_pred (n := H9) rfl hH1]
    refine g_callS (n := 25) (As := [.int _, .int _, .int _, .int _]) C dX7_greatestWorth_22 rfl mw_X7_place w_342 rfl rfl (room hR rfl) (cc_place (l9 := 0) (t9 := 0) (r9 := Wd - 1) (b9 := H9 - 1) (by omega) (by omega) (by omega) (by omega) ?_)
    have hgot := hdn9 0 0 (Wd - 1) (H9 - 1) (by omega) (by omega) (by omega) (by omega)
    have hgot2 := hgot.2.1
    simp only [Nat.zero_add, Nat.sub_zero] at hgot2
    refine l_iald (n := 26) (v := (rT Z 0 0 (Wd - 1) (H9 - 1)).1) 1 (cpl 0 0 (Wd - 1) (H9 - 1)) C dX7_greatestWorth_25 rfl (by exact A0) rfl rfl (cpl_lt (by omega) (by omega) (by omega) (by omega)) (by decide) hgot2 ?_
    refine g_iret C dX7_greatestWorth_26 (by decide) (by decide) ?_
    first | exact k1 za1 | exact k0 zb1 _ _ _ hdn9
theorem dX7_fewestCuts_0 : decode cX7_fewestCuts 0 = .ok (.aload_n 0, 1) := by decide +kernel
theorem dX7_fewestCuts_1 : decode cX7_fewestCuts 1 = .ok (.invokevirtual 34, 3) := by decide +kernel
theorem dX7_fewestCuts_4 : decode cX7_fewestCuts 4 = .ok (.aload_n 0, 1) := by decide +kernel
theorem dX7_fewestCuts_5 : decode cX7_fewestCuts 5 = .ok (.getfield 20, 3) := by decide +kernel
theorem dX7_fewestCuts_8 : decode cX7_fewestCuts 8 = .ok (.iconst 0, 1) := by decide +kernel
theorem dX7_fewestCuts_9 : decode cX7_fewestCuts 9 = .ok (.iconst 0, 1) := by decide +kernel
theorem dX7_fewestCuts_10 : decode cX7_fewestCuts 10 = .ok (.aload_n 0, 1) := by decide +kernel
theorem dX7_fewestCuts_11 : decode cX7_fewestCuts 11 = .ok (.getfield 23, 3) := by decide +kernel
theorem dX7_fewestCuts_14 : decode cX7_fewestCuts 14 = .ok (.iconst 1, 1) := by decide +kernel
theorem dX7_fewestCuts_15 : decode cX7_fewestCuts 15 = .ok (.isub, 1) := by decide +kernel
theorem dX7_fewestCuts_16 : decode cX7_fewestCuts 16 = .ok (.aload_n 0, 1) := by decide +kernel
theorem dX7_fewestCuts_17 : decode cX7_fewestCuts 17 = .ok (.getfield 27, 3) := by decide +kernel
theorem dX7_fewestCuts_20 : decode cX7_fewestCuts 20 = .ok (.iconst 1, 1) := by decide +kernel
theorem dX7_fewestCuts_21 : decode cX7_fewestCuts 21 = .ok (.isub, 1) := by decide +kernel
theorem dX7_fewestCuts_22 : decode cX7_fewestCuts 22 = .ok (.invokestatic 37, 3) := by decide +kernel
theorem dX7_fewestCuts_25 : decode cX7_fewestCuts 25 = .ok (.iaload, 1) := by decide +kernel
theorem dX7_fewestCuts_26 : decode cX7_fewestCuts 26 = .ok (.ireturn, 1) := by decide +kernel
set_option maxHeartbeats 1000000 in
set_option maxRecDepth 20000 in
theorem cc_few {l : Launch} {E : Ev} {P : Value → AH → Prop}  {g fl cl wo fe : Nat} {z : Int32} {Wd H9 : Nat} {h : AH} (hg : h g = some (.inr (7, [.ref fl, .ref cl, .ref wo, .ref fe, .int (nI Wd), .int (nI H9), .int z]))) {Cf Wf Ff Z : Nat → Int32} (hc : h cl = some (.inl (E.2.2 2, 1980, .inl Cf))) (hw : h wo = some (.inl (E.2.2 1, 1980, .inl Wf))) (hf : h fe = some (.inl (E.2.2 1, 1980, .inl Ff))) (hfl : h fl = some (.inl (E.2.2 2, 80, .inl Z))) (A0 : lA [(cl, dE), (wo, dE), (fe, dE)]) (hgn : g ∉ [cl, wo, fe]) (hfn : fl ∉ [cl, wo, fe]) (hW : Wd ≤ 10) (hH : H9 ≤ 8) (hdn : ¬ z = 0 → alldn Z Cf Wf Ff Wd H9) (hW1 : 1 ≤ Wd) (hH1 : 1 ≤ H9) (k1 : ¬ z = 0 → P (.int (rT Z 0 0 (Wd - 1) (H9 - 1)).2) h) (k0 : z = 0 → ∀ C1 W1 F1 : Nat → Int32, alldn Z C1 W1 F1 Wd H9 → P (.int (rT Z 0 0 (Wd - 1) (H9 - 1)).2) (LW [(cl, .inl (E.2.2 2, 1980, .inl (C1))), (wo, .inl (E.2.2 1, 1980, .inl (W1))), (fe, .inl (E.2.2 1, 1980, .inl (F1)))] (hset h g (.inr (7, [.ref fl, .ref cl, .ref wo, .ref fe, .int (nI Wd), .int (nI H9), .int 1]))))) : Mt l E yX7_fewestCuts cX7_fewestCuts 1 (some .int) 5 119 0 0 [.ref g] (h) P := by
  refine Mt.of (by decide) (Nat.le_of_ble_eq_true rfl) ?_
  intro K hK hR C
  refine g_aload_n (n := 1) C dX7_fewestCuts_0 rfl rfl ?_
  refine g_callV (n := 4) (As := []) C dX7_fewestCuts_1 rfl mw_X7_weighAll w_334 (g_recv C hg rfl) rfl rfl (room hR rfl) (cc_weighAll hg hc hw hf hfl A0 hgn hfn hW hH (fun za1 => ?_) (fun zb1 C1 W1 F1 hdn9 => ?_))
  · --k1.0
    have hdn9 := hdn za1
    refine g_aload_n (n := 5) C dX7_fewestCuts_4 rfl rfl ?_
    refine g_get (n := 8) (T := TX7) C 3 dX7_fewestCuts_5 rfl hg rfl rfl (by decide) inX7 w_214 rfl ?_
    refine g_iconst (n := 9) (v := 0) C dX7_fewestCuts_8 rfl (by decide) ?_
    refine g_iconst (n := 10) (v := 0) C dX7_fewestCuts_9 rfl (by decide) ?_
    refine g_aload_n (n := 11) C dX7_fewestCuts_10 rfl rfl ?_
    refine g_get (n := 14) (T := TX7) C 4 dX7_fewestCuts_11 rfl hg rfl rfl (by decide) inX7 w_215 rfl ?_
    refine g_iconst (n := 15) (v := 1) C dX7_fewestCuts_14 rfl (by decide) ?_
    refine g_isub (n := 16) C dX7_fewestCuts_15 rfl ?_
    refine g_aload_n (n := 17) C dX7_fewestCuts_16 rfl rfl ?_
    refine g_get (n := 20) (T := TX7) C 5 dX7_fewestCuts_17 rfl hg rfl rfl (by decide) inX7 w_216 rfl ?_
    refine g_iconst (n := 21) (v := 1) C dX7_fewestCuts_20 rfl (by decide) ?_
    refine g_isub (n := 22) C dX7_fewestCuts_21 rfl ?_
    rw [n_pred (n := Wd) rfl hW1, n_pred (n := H9) rfl hH1]
    refine g_callS (n := 25) (As := [.int _, .int _, .int _, .int _]) C dX7_fewestCuts_22 rfl mw_X7_place w_342 rfl rfl (room hR rfl) (cc_place (l9 := 0) (t9 := 0) (r9 := Wd - 1) (b9 := H9 - 1) (by omega) (by omega) (by omega) (by omega) ?_)
    have hgot := hdn9 0 0 (Wd - 1) (H9 - 1) (by omega) (by omega) (by omega) (by omega)
    have hgot2 := hgot.2.2
    simp only [Nat.zero_add, Nat.sub_zero] at hgot2
    refine f_iald (n := 26) (v := (rT Z 0 0 (Wd - 1) (H9 - 1)).2) (cpl 0 0 (Wd - 1) (H9 - 1)) C dX7_fewestCuts_25 rfl hf rfl (cpl_lt (by omega) (by omega) (by omega) (by omega)) (by decide) hgot2 ?_
    refine g_iret C dX7_fewestCuts_26 (by decide) (by decide) ?_
    first | exact k1 za1 | exact k0 zb1 _ _ _ hdn9
  · --k1.1
    have hg9 : hset h g (.inr (7, [.ref fl, .ref cl, .ref wo, .ref fe, .int (nI Wd), .int (nI H9), .int 1])) g = some (.inr (7, [.ref fl, .ref cl, .ref wo, .ref fe, .int (nI Wd), .int (nI H9), .int 1])) := hset_same _ _ _
    refine g_aload_n (n := 5) C dX7_fewestCuts_4 rfl rfl ?_
    refine b_get (n := 8) (T := TX7) 3 C dX7_fewestCuts_5 rfl hg9 hgn rfl rfl (by decide) inX7 w_214 rfl ?_
    refine g_iconst (n := 9) (v := 0) C dX7_fewestCuts_8 rfl (by decide) ?_
    refine g_iconst (n := 10) (v := 0) C dX7_fewestCuts_9 rfl (by decide) ?_
    refine g_aload_n (n := 11) C dX7_fewestCuts_10 rfl rfl ?_
    refine b_get (n := 14) (T := TX7) 4 C dX7_fewestCuts_11 rfl hg9 hgn rfl rfl (by decide) inX7 w_215 rfl ?_
    refine g_iconst (n := 15) (v := 1) C dX7_fewestCuts_14 rfl (by decide) ?_
    refine g_isub (n := 16) C dX7_fewestCuts_15 rfl ?_
    refine g_aload_n (n := 17) C dX7_fewestCuts_16 rfl rfl ?_
    refine b_get (n := 20) (T := TX7) 5 C dX7_fewestCuts_17 rfl hg9 hgn rfl rfl (by decide) inX7 w_216 rfl ?_
    refine g_iconst (n := 21) (v := 1) C dX7_fewestCuts_20 rfl (by decide) ?_
    refine g_isub (n := 22) C dX7_fewestCuts_21 rfl ?_
    rw [n_pred (n := Wd) rfl hW1, n_pred (n := H9) rfl hH1]
    refine g_callS (n := 25) (As := [.int _, .int _, .int _, .int _]) C dX7_fewestCuts_22 rfl mw_X7_place w_342 rfl rfl (room hR rfl) (cc_place (l9 := 0) (t9 := 0) (r9 := Wd - 1) (b9 := H9 - 1) (by omega) (by omega) (by omega) (by omega) ?_)
    have hgot := hdn9 0 0 (Wd - 1) (H9 - 1) (by omega) (by omega) (by omega) (by omega)
    have hgot2 := hgot.2.2
    simp only [Nat.zero_add, Nat.sub_zero] at hgot2
    refine l_iald (n := 26) (v := (rT Z 0 0 (Wd - 1) (H9 - 1)).2) 2 (cpl 0 0 (Wd - 1) (H9 - 1)) C dX7_fewestCuts_25 rfl (by exact A0) rfl rfl (cpl_lt (by omega) (by omega) (by omega) (by omega)) (by decide) hgot2 ?_
    refine g_iret C dX7_fewestCuts_26 (by decide) (by decide) ?_
    first | exact k1 za1 | exact k0 zb1 _ _ _ hdn9
