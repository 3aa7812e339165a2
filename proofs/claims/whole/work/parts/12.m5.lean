/-- the buyer of the greatest hand not below the limit among the first, by the hands from place c on; -1: none -/
def rbuy (H9 : Nat → Int32) (c : Nat) (lim : Int32) : Nat → Int32
  | 0 => -1
  | b + 1 => if H9 (c + b) < lim then rbuy H9 c lim b else if rbuy H9 c lim b < 0 then nI b else if H9 (c + b) ≤ H9 (c + (rbuy H9 c lim b).toNatClampNeg) then rbuy H9 c lim b else nI b
theorem rbuy_in (H9 : Nat → Int32) (c : Nat) (lim : Int32) : ∀ b, b ≤ 6 → rbuy H9 c lim b = -1 ∨ ∃ i, i < b ∧ rbuy H9 c lim b = nI i
  | 0, _ => Or.inl rfl
  | b + 1, h => by
    have ih := rbuy_in H9 c lim b (by omega)
    have up : rbuy H9 c lim b = -1 ∨ ∃ i, i < b + 1 ∧ rbuy H9 c lim b = nI i := ih.imp id (fun ⟨i, h1, h2⟩ => ⟨i, by omega, h2⟩)
    unfold rbuy
    by_cases c1 : H9 (c + b) < lim
    · rw [if_pos c1]; exact up
    · rw [if_neg c1]
      by_cases c2 : rbuy H9 c lim b < 0
      · rw [if_pos c2]; exact Or.inr ⟨b, by omega, rfl⟩
      · rw [if_neg c2]
        by_cases c3 : H9 (c + b) ≤ H9 (c + (rbuy H9 c lim b).toNatClampNeg)
        · rw [if_pos c3]; exact up
        · rw [if_neg c3]; exact Or.inr ⟨b, by omega, rfl⟩
theorem rbuy_ge {H9 : Nat → Int32} {c : Nat} {lim : Int32} {b : Nat} (hb : b ≤ 6) (h : ¬ rbuy H9 c lim b < 0) : ∃ i, i < b ∧ rbuy H9 c lim b = nI i := by
  rcases rbuy_in H9 c lim b hb with q | q
  · rw [q] at h; exact absurd (by decide) h
  · exact q
theorem rbuy_1 {H9 : Nat → Int32} {c : Nat} {lim : Int32} {b : Nat} (h : H9 (c + b) < lim) : rbuy H9 c lim b = rbuy H9 c lim (b + 1) := by
  conv => rhs; unfold rbuy
  rw [if_pos h]
theorem rbuy_2 {H9 : Nat → Int32} {c : Nat} {lim : Int32} {b : Nat} (h : ¬ H9 (c + b) < lim) (h2 : rbuy H9 c lim b < 0) : nI b = rbuy H9 c lim (b + 1) := by
  conv => rhs; unfold rbuy
  rw [if_neg h, if_pos h2]
theorem rbuy_3 {H9 : Nat → Int32} {c : Nat} {lim : Int32} {b i : Nat} (h : ¬ H9 (c + b) < lim) (h2 : ¬ rbuy H9 c lim b < 0) (e : rbuy H9 c lim b = nI i) (hi : i < 6) (h3 : H9 (c + b) ≤ H9 (c + i)) : rbuy H9 c lim b = rbuy H9 c lim (b + 1) := by
  conv => rhs; unfold rbuy
  rw [if_neg h, if_neg h2, if_pos (by rw [e, nI_clamp (by omega)]; exact h3)]
theorem rbuy_4 {H9 : Nat → Int32} {c : Nat} {lim : Int32} {b i : Nat} (h : ¬ H9 (c + b) < lim) (h2 : ¬ rbuy H9 c lim b < 0) (e : rbuy H9 c lim b = nI i) (hi : i < 6) (h3 : ¬ H9 (c + b) ≤ H9 (c + i)) : nI b = rbuy H9 c lim (b + 1) := by
  conv => rhs; unfold rbuy
  rw [if_neg h, if_neg h2, if_neg (by rw [e, nI_clamp (by omega)]; exact h3)]
/-- what a sale of stone j to buyer i does to the reference -/
def rseA (A : Nat → Nat → Int32) (j i : Nat) : Nat → Nat → Int32 := aset (aset A 21 (10 * j + 2) (nI i)) 21 (10 * j + 3) (A 22 (6 * j + i))
theorem rse_row (A : Nat → Nat → Int32) (j i : Nat) {k : Nat} (h : k ≠ 21) : rseA A j i k = A k := (aset_row _ _ _ h).trans (aset_row _ _ _ h)
theorem rse_at (A : Nat → Nat → Int32) (j i k : Nat) : rseA A j i 21 (10 * j + 4 + k) = A 21 (10 * j + 4 + k) := (aset_rd _ _ (by omega)).trans (aset_rd _ _ (by omega))
theorem ix6z {x : Int32} {m : Nat} (hx : x = nI m) : 6 * x = nI (6 * m) := by rw [hx, ← pk_mul]; rfl
theorem dX11_sell_0 : decode cX11_sell 0 = .ok (.aload_n 0, 1) := by decide +kernel
theorem dX11_sell_1 : decode cX11_sell 1 = .ok (.iconst 0, 1) := by decide +kernel
theorem dX11_sell_2 : decode cX11_sell 2 = .ok (.putfield 76, 3) := by decide +kernel
theorem dX11_sell_5 : decode cX11_sell 5 = .ok (.aload_n 0, 1) := by decide +kernel
theorem dX11_sell_6 : decode cX11_sell 6 = .ok (.aload_n 0, 1) := by decide +kernel
theorem dX11_sell_7 : decode cX11_sell 7 = .ok (.iload_n 1, 1) := by decide +kernel
theorem dX11_sell_8 : decode cX11_sell 8 = .ok (.invokevirtual 209, 3) := by decide +kernel
theorem dX11_sell_11 : decode cX11_sell 11 = .ok (.iconst 1, 1) := by decide +kernel
theorem dX11_sell_12 : decode cX11_sell 12 = .ok (.invokevirtual 162, 3) := by decide +kernel
theorem dX11_sell_15 : decode cX11_sell 15 = .ok (.ifCond .ne 40, 3) := by decide +kernel
theorem dX11_sell_18 : decode cX11_sell 18 = .ok (.aload_n 0, 1) := by decide +kernel
theorem dX11_sell_19 : decode cX11_sell 19 = .ok (.iload_n 2, 1) := by decide +kernel
theorem dX11_sell_20 : decode cX11_sell 20 = .ok (.iconst 0, 1) := by decide +kernel
theorem dX11_sell_21 : decode cX11_sell 21 = .ok (.ldc 212, 2) := by decide +kernel
theorem dX11_sell_23 : decode cX11_sell 23 = .ok (.invokestatic 79, 3) := by decide +kernel
theorem dX11_sell_26 : decode cX11_sell 26 = .ok (.ifCond .ne 7, 3) := by decide +kernel
theorem dX11_sell_29 : decode cX11_sell 29 = .ok (.iconst 1, 1) := by decide +kernel
theorem dX11_sell_30 : decode cX11_sell 30 = .ok (.goto 4, 3) := by decide +kernel
theorem dX11_sell_33 : decode cX11_sell 33 = .ok (.iconst 0, 1) := by decide +kernel
theorem dX11_sell_34 : decode cX11_sell 34 = .ok (.iconst 2, 1) := by decide +kernel
theorem dX11_sell_35 : decode cX11_sell 35 = .ok (.invokevirtual 162, 3) := by decide +kernel
theorem dX11_sell_38 : decode cX11_sell 38 = .ok (.ifCond .ne 17, 3) := by decide +kernel
theorem dX11_sell_41 : decode cX11_sell 41 = .ok (.aload_n 0, 1) := by decide +kernel
theorem dX11_sell_42 : decode cX11_sell 42 = .ok (.getfield 51, 3) := by decide +kernel
theorem dX11_sell_45 : decode cX11_sell 45 = .ok (.bipush 10, 2) := by decide +kernel
theorem dX11_sell_47 : decode cX11_sell 47 = .ok (.iload_n 1, 1) := by decide +kernel
theorem dX11_sell_48 : decode cX11_sell 48 = .ok (.imul, 1) := by decide +kernel
theorem dX11_sell_49 : decode cX11_sell 49 = .ok (.iconst 2, 1) := by decide +kernel
theorem dX11_sell_50 : decode cX11_sell 50 = .ok (.iadd, 1) := by decide +kernel
theorem dX11_sell_51 : decode cX11_sell 51 = .ok (.iaload, 1) := by decide +kernel
theorem dX11_sell_52 : decode cX11_sell 52 = .ok (.ifCond .lt 16, 3) := by decide +kernel
theorem dX11_sell_55 : decode cX11_sell 55 = .ok (.aload_n 0, 1) := by decide +kernel
theorem dX11_sell_56 : decode cX11_sell 56 = .ok (.getfield 76, 3) := by decide +kernel
theorem dX11_sell_59 : decode cX11_sell 59 = .ok (.ifCond .eq 7, 3) := by decide +kernel
theorem dX11_sell_62 : decode cX11_sell 62 = .ok (.iconst 0, 1) := by decide +kernel
theorem dX11_sell_63 : decode cX11_sell 63 = .ok (.goto 4, 3) := by decide +kernel
theorem dX11_sell_66 : decode cX11_sell 66 = .ok (.iconst (-1), 1) := by decide +kernel
theorem dX11_sell_67 : decode cX11_sell 67 = .ok (.ireturn, 1) := by decide +kernel
theorem dX11_sell_68 : decode cX11_sell 68 = .ok (.iconst (-1), 1) := by decide +kernel
theorem dX11_sell_69 : decode cX11_sell 69 = .ok (.istore_n 3, 1) := by decide +kernel
theorem dX11_sell_70 : decode cX11_sell 70 = .ok (.iconst 0, 1) := by decide +kernel
theorem dX11_sell_71 : decode cX11_sell 71 = .ok (.istore 4, 2) := by decide +kernel
theorem dX11_sell_73 : decode cX11_sell 73 = .ok (.iload 4, 2) := by decide +kernel
theorem dX11_sell_75 : decode cX11_sell 75 = .ok (.bipush 6, 2) := by decide +kernel
theorem dX11_sell_77 : decode cX11_sell 77 = .ok (.if_icmp .ge 52, 3) := by decide +kernel
theorem dX11_sell_80 : decode cX11_sell 80 = .ok (.aload_n 0, 1) := by decide +kernel
theorem dX11_sell_81 : decode cX11_sell 81 = .ok (.getfield 54, 3) := by decide +kernel
theorem dX11_sell_84 : decode cX11_sell 84 = .ok (.bipush 6, 2) := by decide +kernel
theorem dX11_sell_86 : decode cX11_sell 86 = .ok (.iload_n 1, 1) := by decide +kernel
theorem dX11_sell_87 : decode cX11_sell 87 = .ok (.imul, 1) := by decide +kernel
theorem dX11_sell_88 : decode cX11_sell 88 = .ok (.iload 4, 2) := by decide +kernel
theorem dX11_sell_90 : decode cX11_sell 90 = .ok (.iadd, 1) := by decide +kernel
theorem dX11_sell_91 : decode cX11_sell 91 = .ok (.iaload, 1) := by decide +kernel
theorem dX11_sell_92 : decode cX11_sell 92 = .ok (.istore 5, 2) := by decide +kernel
theorem dX11_sell_94 : decode cX11_sell 94 = .ok (.iload 5, 2) := by decide +kernel
theorem dX11_sell_96 : decode cX11_sell 96 = .ok (.iload_n 2, 1) := by decide +kernel
theorem dX11_sell_97 : decode cX11_sell 97 = .ok (.if_icmp .lt 26, 3) := by decide +kernel
theorem dX11_sell_100 : decode cX11_sell 100 = .ok (.iload_n 3, 1) := by decide +kernel
theorem dX11_sell_101 : decode cX11_sell 101 = .ok (.ifCond .lt 19, 3) := by decide +kernel
theorem dX11_sell_104 : decode cX11_sell 104 = .ok (.iload 5, 2) := by decide +kernel
theorem dX11_sell_106 : decode cX11_sell 106 = .ok (.aload_n 0, 1) := by decide +kernel
theorem dX11_sell_107 : decode cX11_sell 107 = .ok (.getfield 54, 3) := by decide +kernel
theorem dX11_sell_110 : decode cX11_sell 110 = .ok (.bipush 6, 2) := by decide +kernel
theorem dX11_sell_112 : decode cX11_sell 112 = .ok (.iload_n 1, 1) := by decide +kernel
theorem dX11_sell_113 : decode cX11_sell 113 = .ok (.imul, 1) := by decide +kernel
theorem dX11_sell_114 : decode cX11_sell 114 = .ok (.iload_n 3, 1) := by decide +kernel
theorem dX11_sell_115 : decode cX11_sell 115 = .ok (.iadd, 1) := by decide +kernel
theorem dX11_sell_116 : decode cX11_sell 116 = .ok (.iaload, 1) := by decide +kernel
theorem dX11_sell_117 : decode cX11_sell 117 = .ok (.if_icmp .le 6, 3) := by decide +kernel
theorem dX11_sell_120 : decode cX11_sell 120 = .ok (.iload 4, 2) := by decide +kernel
theorem dX11_sell_122 : decode cX11_sell 122 = .ok (.istore_n 3, 1) := by decide +kernel
theorem dX11_sell_123 : decode cX11_sell 123 = .ok (.iinc 4 1, 3) := by decide +kernel
theorem dX11_sell_126 : decode cX11_sell 126 = .ok (.goto (-53), 3) := by decide +kernel
theorem dX11_sell_129 : decode cX11_sell 129 = .ok (.iload_n 3, 1) := by decide +kernel
theorem dX11_sell_130 : decode cX11_sell 130 = .ok (.ifCond .ge 5, 3) := by decide +kernel
theorem dX11_sell_133 : decode cX11_sell 133 = .ok (.iconst (-1), 1) := by decide +kernel
theorem dX11_sell_134 : decode cX11_sell 134 = .ok (.ireturn, 1) := by decide +kernel
theorem dX11_sell_135 : decode cX11_sell 135 = .ok (.aload_n 0, 1) := by decide +kernel
theorem dX11_sell_136 : decode cX11_sell 136 = .ok (.getfield 51, 3) := by decide +kernel
theorem dX11_sell_139 : decode cX11_sell 139 = .ok (.bipush 10, 2) := by decide +kernel
theorem dX11_sell_141 : decode cX11_sell 141 = .ok (.iload_n 1, 1) := by decide +kernel
theorem dX11_sell_142 : decode cX11_sell 142 = .ok (.imul, 1) := by decide +kernel
theorem dX11_sell_143 : decode cX11_sell 143 = .ok (.iconst 2, 1) := by decide +kernel
theorem dX11_sell_144 : decode cX11_sell 144 = .ok (.iadd, 1) := by decide +kernel
theorem dX11_sell_145 : decode cX11_sell 145 = .ok (.iload_n 3, 1) := by decide +kernel
theorem dX11_sell_146 : decode cX11_sell 146 = .ok (.iastore, 1) := by decide +kernel
theorem dX11_sell_147 : decode cX11_sell 147 = .ok (.aload_n 0, 1) := by decide +kernel
theorem dX11_sell_148 : decode cX11_sell 148 = .ok (.getfield 51, 3) := by decide +kernel
theorem dX11_sell_151 : decode cX11_sell 151 = .ok (.bipush 10, 2) := by decide +kernel
theorem dX11_sell_153 : decode cX11_sell 153 = .ok (.iload_n 1, 1) := by decide +kernel
theorem dX11_sell_154 : decode cX11_sell 154 = .ok (.imul, 1) := by decide +kernel
theorem dX11_sell_155 : decode cX11_sell 155 = .ok (.iconst 3, 1) := by decide +kernel
theorem dX11_sell_156 : decode cX11_sell 156 = .ok (.iadd, 1) := by decide +kernel
theorem dX11_sell_157 : decode cX11_sell 157 = .ok (.aload_n 0, 1) := by decide +kernel
theorem dX11_sell_158 : decode cX11_sell 158 = .ok (.getfield 54, 3) := by decide +kernel
theorem dX11_sell_161 : decode cX11_sell 161 = .ok (.bipush 6, 2) := by decide +kernel
theorem dX11_sell_163 : decode cX11_sell 163 = .ok (.iload_n 1, 1) := by decide +kernel
theorem dX11_sell_164 : decode cX11_sell 164 = .ok (.imul, 1) := by decide +kernel
theorem dX11_sell_165 : decode cX11_sell 165 = .ok (.iload_n 3, 1) := by decide +kernel
theorem dX11_sell_166 : decode cX11_sell 166 = .ok (.iadd, 1) := by decide +kernel
theorem dX11_sell_167 : decode cX11_sell 167 = .ok (.iaload, 1) := by decide +kernel
theorem dX11_sell_168 : decode cX11_sell 168 = .ok (.iastore, 1) := by decide +kernel
theorem dX11_sell_169 : decode cX11_sell 169 = .ok (.aload_n 0, 1) := by decide +kernel
theorem dX11_sell_170 : decode cX11_sell 170 = .ok (.bipush 10, 2) := by decide +kernel
theorem dX11_sell_172 : decode cX11_sell 172 = .ok (.iload_n 1, 1) := by decide +kernel
theorem dX11_sell_173 : decode cX11_sell 173 = .ok (.imul, 1) := by decide +kernel
theorem dX11_sell_174 : decode cX11_sell 174 = .ok (.aload_n 0, 1) := by decide +kernel
theorem dX11_sell_175 : decode cX11_sell 175 = .ok (.getfield 51, 3) := by decide +kernel
theorem dX11_sell_178 : decode cX11_sell 178 = .ok (.bipush 10, 2) := by decide +kernel
theorem dX11_sell_180 : decode cX11_sell 180 = .ok (.iload_n 1, 1) := by decide +kernel
theorem dX11_sell_181 : decode cX11_sell 181 = .ok (.imul, 1) := by decide +kernel
theorem dX11_sell_182 : decode cX11_sell 182 = .ok (.iconst 3, 1) := by decide +kernel
theorem dX11_sell_183 : decode cX11_sell 183 = .ok (.iadd, 1) := by decide +kernel
theorem dX11_sell_184 : decode cX11_sell 184 = .ok (.iaload, 1) := by decide +kernel
theorem dX11_sell_185 : decode cX11_sell 185 = .ok (.invokevirtual 213, 3) := by decide +kernel
theorem dX11_sell_188 : decode cX11_sell 188 = .ok (.iload_n 3, 1) := by decide +kernel
theorem dX11_sell_189 : decode cX11_sell 189 = .ok (.ireturn, 1) := by decide +kernel
set_option maxHeartbeats 2000000 in
set_option maxRecDepth 20000 in
theorem ct_sell {l : Launch} {E : Ev} {P : Value → AH → Prop} {o : Nat} {ad : Nat → Nat} {F : Nat → Int32} {A : Nat → Nat → Int32} {h : AH} (I : mI o ad) {m : Nat} (hm : F 23 = nI m) (hm6 : m ≤ 60) {s lim : Int32} (hz : F 13 = 0 → ∀ k, A 11 k = 0) (hzz : ∀ j, j < m → A 21 (10 * j + 2) < 0 → ∀ k, k < 6 → A 21 (10 * j + 4 + k) = 0) (k1 : s < 0 ∨ F 23 - 1 < s → P (.int 0) (mh E o ad (upd (upd F 0 0) 0 1) A h)) (k2 : ∀ j, j < m → s = nI j → (lim < 0 ∨ 1000000 < lim) → P (.int 0) (mh E o ad (upd (upd F 0 0) 0 2) A h)) (k3 : ∀ j, j < m → s = nI j → ¬ (lim < 0 ∨ 1000000 < lim) → ¬ A 21 (10 * j + 2) < 0 → P (.int (-1)) (mh E o ad (upd F 0 0) A h)) (k4 : ∀ j, j < m → s = nI j → ¬ (lim < 0 ∨ 1000000 < lim) → A 21 (10 * j + 2) < 0 → rbuy (A 22) (6 * j) lim 6 = -1 → P (.int (-1)) (mh E o ad (upd F 0 0) A h)) (k5 : ∀ j, j < m → s = nI j → ¬ (lim < 0 ∨ 1000000 < lim) → A 21 (10 * j + 2) < 0 → ∀ i, i < 6 → rbuy (A 22) (6 * j) lim 6 = nI i → P (.int (nI i)) (mh E o ad (rpF (upd F 0 0) (rseA A j i) (A 22 (6 * j + i))) (rpA (upd F 0 0) (rseA A j i) (10 * j) (A 22 (6 * j + i))) h)) : Mt l E yX11_sell cX11_sell 6 (some .int) 8 135 0 0 [.ref o, .int s, .int lim] (mh E o ad F A h) P := by
  refine Mt.of (by decide) (Nat.le_of_ble_eq_true rfl) ?_
  intro K hK hR C
  refine g_aload_n (n := 1) C dX11_sell_0 rfl rfl ?_
  refine g_iconst (n := 2) (v := 0) C dX11_sell_1 rfl (by decide) ?_
  refine m_put (n := 5) 0 C dX11_sell_2 rfl (by decide) w_1100 rfl rfl rfl mfs_0 ?_
  refine g_aload_n (n := 6) C dX11_sell_5 rfl rfl ?_
  refine g_aload_n (n := 7) C dX11_sell_6 rfl rfl ?_
  refine g_iload_n (n := 8) C dX11_sell_7 rfl rfl ?_
  refine g_callV (n := 11) (As := [.int _]) C dX11_sell_8 rfl mw_X11_noStone w_1346 (g_recv C mh_o rfl) rfl rfl (room hR rfl) (ct_noStone (fun za8 zb8 => ?_) (fun za8 => ?_))
  · --k8.0
    obtain ⟨j, hj, rfl⟩ := ix_of za8 zb8 (show upd F 0 0 23 = nI m from hm) (by omega)
    refine g_iconst (n := 12) (v := 1) C dX11_sell_11 rfl (by decide) ?_
    refine g_callV (n := 15) (As := [.int _, .int _]) C dX11_sell_12 rfl mw_X11_throwsIf w_1257 (g_recv C mh_o rfl) rfl rfl (room hR rfl) (ct_throwsIf0 ?_)
    refine g_if_ne (n := 18) (t := 55) C dX11_sell_15 rfl (by decide) (fun zc15 => ?_) (fun zc15 => ?_)
    · exact absurd zc15 (by decide)
    refine g_aload_n (n := 19) C dX11_sell_18 rfl rfl ?_
    refine g_iload_n (n := 20) C dX11_sell_19 rfl rfl ?_
    refine g_iconst (n := 21) (v := 0) C dX11_sell_20 rfl (by decide) ?_
    refine g_ldc (n := 23) C dX11_sell_21 rfl w_1350 ?_
    refine g_callS (n := 26) (As := [.int _, .int _, .int _]) C dX11_sell_23 rfl mw_X11_in w_1273 rfl rfl (room hR rfl) (ct_in (fun za23 zb23 => ?_) (fun za23 => ?_) (fun za23 zb23 => ?_))
    · --k23.0
      refine g_if_ne (n := 29) (t := 33) C dX11_sell_26 rfl (by decide) (fun zc26 => ?_) (fun zc26 => ?_)
      rotate_left
      · exact absurd zc26 (by decide)
      refine g_iconst (n := 34) (v := 0) C dX11_sell_33 rfl (by decide) ?_
      refine g_iconst (n := 35) (v := 2) C dX11_sell_34 rfl (by decide) ?_
      refine g_callV (n := 38) (As := [.int _, .int _]) C dX11_sell_35 rfl mw_X11_throwsIf w_1257 (g_recv C mh_o rfl) rfl rfl (room hR rfl) (ct_throwsIf0 ?_)
      refine g_if_ne (n := 41) (t := 55) C dX11_sell_38 rfl (by decide) (fun zc38 => ?_) (fun zc38 => ?_)
      · exact absurd zc38 (by decide)
      refine g_aload_n (n := 42) C dX11_sell_41 rfl rfl ?_
      refine m_get (n := 45) 21 C dX11_sell_42 rfl (by decide) rfl w_1121 rfl ?_
      refine g_bipush (n := 47) (v := 10) C dX11_sell_45 rfl (by decide) ?_
      refine g_iload_n (n := 48) C dX11_sell_47 rfl rfl ?_
      refine g_imul (n := 49) C dX11_sell_48 rfl ?_
      refine g_iconst (n := 50) (v := 2) C dX11_sell_49 rfl (by decide) ?_
      refine g_iadd (n := 51) C dX11_sell_50 rfl ?_
      refine m_iald (n := 52) 21 (10 * j + 2) C dX11_sell_51 rfl I (by decide) rfl (ix10 rfl 2) (by omega) (by decide) rfl ?_
      refine g_if_lt (n := 55) (t := 68) C dX11_sell_52 rfl (by decide) (fun zc52 => ?_) (fun zc52 => ?_)
      · --t52
        refine g_iconst (n := 69) (v := (-1)) C dX11_sell_68 rfl (by decide) ?_
        refine g_istore_n (n := 70) C dX11_sell_69 rfl (by decide) ?_
        refine g_iconst (n := 71) (v := 0) C dX11_sell_70 rfl (by decide) ?_
        refine g_istore (n := 73) C dX11_sell_71 rfl (by decide) ?_
        have lp : ∀ p : Nat, p ≤ 6 → ∀ (b x : Int32), b = rbuy (A 22) (6 * j) lim p → x = nI p → G K E 6 (QM K E (some .int) 0 0 P) 0 0 73 [(0, .ref o), (1, .int (nI j)), (2, .int lim), (3, .int b), (4, .int x)] [] (mh E o ad (upd F 0 0) A h) := by
          refine loopN (fun p => ∀ (b x : Int32), b = rbuy (A 22) (6 * j) lim p → x = nI p → G K E 6 (QM K E (some .int) 0 0 P) 0 0 73 [(0, .ref o), (1, .int (nI j)), (2, .int lim), (3, .int b), (4, .int x)] [] (mh E o ad (upd F 0 0) A h)) (6) ?_
          intro p hlep ihp b x eb ex
          subst ex
          refine g_iload (n := 75) C dX11_sell_73 rfl rfl ?_
          refine g_bipush (n := 77) (v := 6) C dX11_sell_75 rfl (by decide) ?_
          refine g_icmp_ge (n := 80) (t := 129) C dX11_sell_77 rfl (by decide) (fun zc77 => ?_) (fun zc77 => ?_)
          · --t77
            refine g_iload_n (n := 130) C dX11_sell_129 rfl rfl ?_
            have ep : p = 6 := i_eq (n := 6) rfl zc77 hlep (by decide)
            subst ep
            refine g_if_ge (n := 133) (t := 135) C dX11_sell_130 rfl (by decide) (fun zc130 => ?_) (fun zc130 => ?_)
            · --t130
              obtain ⟨i, hi, ei⟩ := rbuy_ge (Nat.le_refl 6) (by rw [← eb]; exact Int32.not_lt.mpr zc130)
              have ebi : b = nI i := eb.trans ei
              subst ebi
              refine g_aload_n (n := 136) C dX11_sell_135 rfl rfl ?_
              refine m_get (n := 139) 21 C dX11_sell_136 rfl (by decide) rfl w_1121 rfl ?_
              refine g_bipush (n := 141) (v := 10) C dX11_sell_139 rfl (by decide) ?_
              refine g_iload_n (n := 142) C dX11_sell_141 rfl rfl ?_
              refine g_imul (n := 143) C dX11_sell_142 rfl ?_
              refine g_iconst (n := 144) (v := 2) C dX11_sell_143 rfl (by decide) ?_
              refine g_iadd (n := 145) C dX11_sell_144 rfl ?_
              refine g_iload_n (n := 146) C dX11_sell_145 rfl rfl ?_
              refine m_iast (n := 147) 21 (10 * j + 2) C dX11_sell_146 rfl I (by decide) (fun _ => rfl) (ix10 rfl 2) (by omega) (by decide) ?_
              refine g_aload_n (n := 148) C dX11_sell_147 rfl rfl ?_
              refine m_get (n := 151) 21 C dX11_sell_148 rfl (by decide) rfl w_1121 rfl ?_
              refine g_bipush (n := 153) (v := 10) C dX11_sell_151 rfl (by decide) ?_
              refine g_iload_n (n := 154) C dX11_sell_153 rfl rfl ?_
              refine g_imul (n := 155) C dX11_sell_154 rfl ?_
              refine g_iconst (n := 156) (v := 3) C dX11_sell_155 rfl (by decide) ?_
              refine g_iadd (n := 157) C dX11_sell_156 rfl ?_
              refine g_aload_n (n := 158) C dX11_sell_157 rfl rfl ?_
              refine m_get (n := 161) 22 C dX11_sell_158 rfl (by decide) rfl w_1122 rfl ?_
              refine g_bipush (n := 163) (v := 6) C dX11_sell_161 rfl (by decide) ?_
              refine g_iload_n (n := 164) C dX11_sell_163 rfl rfl ?_
              refine g_imul (n := 165) C dX11_sell_164 rfl ?_
              refine g_iload_n (n := 166) C dX11_sell_165 rfl rfl ?_
              refine g_iadd (n := 167) C dX11_sell_166 rfl ?_
              refine m_iald (n := 168) (v := A 22 (6 * j + i)) 22 (6 * j + i) C dX11_sell_167 rfl I (by decide) rfl (ix6 rfl i) (by omega) (by decide) (rfl) ?_
              refine m_iast (n := 169) 21 (10 * j + 3) C dX11_sell_168 rfl I (by decide) (fun _ => rfl) (ix10 rfl 3) (by omega) (by decide) ?_
              refine g_aload_n (n := 170) C dX11_sell_169 rfl rfl ?_
              refine g_bipush (n := 172) (v := 10) C dX11_sell_170 rfl (by decide) ?_
              refine g_iload_n (n := 173) C dX11_sell_172 rfl rfl ?_
              refine g_imul (n := 174) C dX11_sell_173 rfl ?_
              refine g_aload_n (n := 175) C dX11_sell_174 rfl rfl ?_
              refine m_get (n := 178) 21 C dX11_sell_175 rfl (by decide) rfl w_1121 rfl ?_
              refine g_bipush (n := 180) (v := 10) C dX11_sell_178 rfl (by decide) ?_
              refine g_iload_n (n := 181) C dX11_sell_180 rfl rfl ?_
              refine g_imul (n := 182) C dX11_sell_181 rfl ?_
              refine g_iconst (n := 183) (v := 3) C dX11_sell_182 rfl (by decide) ?_
              refine g_iadd (n := 184) C dX11_sell_183 rfl ?_
              refine m_iald (n := 185) (v := A 22 (6 * j + i)) 21 (10 * j + 3) C dX11_sell_184 rfl I (by decide) rfl (ix10 rfl 3) (by omega) (by decide) (aset_same _ _ _ _) ?_
              refine (show G K E 6 _ _ _ 185 _ _ (mh E o ad (upd F 0 0) (rseA A j i) h) from ?_)
              rw [show (10 : Int32) * nI j = nI (10 * j) from ix10z rfl]
              refine g_callV (n := 188) (As := [.int _, .int _]) C dX11_sell_185 rfl mw_X11_parts w_1355 (g_recv C mh_o rfl) rfl rfl (room hR rfl) (ct_parts I (a := 10 * j) (by omega) (show upd F 0 0 13 = 0 → ∀ k, rseA A j i 11 k = 0 from fun zq k => (congrFun (rse_row A j i (by decide)) k).trans (hz zq k)) (fun k hk => (rse_at A j i k).trans (hzz j hj (by assumption) k hk)) ?_)
              refine g_iload_n (n := 189) C dX11_sell_188 rfl rfl ?_
              refine g_iret C dX11_sell_189 (by decide) (by decide) ?_
              exact k5 j hj rfl (n_or (by assumption) (by assumption)) (by assumption) i hi ei
            · --f130
              refine g_iconst (n := 134) (v := (-1)) C dX11_sell_133 rfl (by decide) ?_
              refine g_iret C dX11_sell_134 (by decide) (by decide) ?_
              rcases rbuy_in (A 22) (6 * j) lim 6 (Nat.le_refl 6) with zq | ⟨i, hi, ei⟩
              · exact k4 j hj rfl (n_or (by assumption) (by assumption)) (by assumption) zq
              · exact absurd (show 0 ≤ b by rw [eb, ei]; exact nI_pos' (by omega)) (by assumption)
          · --f77
            refine g_aload_n (n := 81) C dX11_sell_80 rfl rfl ?_
            refine m_get (n := 84) 22 C dX11_sell_81 rfl (by decide) rfl w_1122 rfl ?_
            refine g_bipush (n := 86) (v := 6) C dX11_sell_84 rfl (by decide) ?_
            refine g_iload_n (n := 87) C dX11_sell_86 rfl rfl ?_
            refine g_imul (n := 88) C dX11_sell_87 rfl ?_
            refine g_iload (n := 90) C dX11_sell_88 rfl rfl ?_
            refine g_iadd (n := 91) C dX11_sell_90 rfl ?_
            refine m_iald (n := 92) 22 (6 * j + p) C dX11_sell_91 rfl I (by decide) rfl (ix6 rfl p) (by have := (i_lt (n := 6) rfl zc77 hlep (by decide)); omega) (by decide) rfl ?_
            refine g_istore (n := 94) C dX11_sell_92 rfl (by decide) ?_
            refine g_iload (n := 96) C dX11_sell_94 rfl rfl ?_
            refine g_iload_n (n := 97) C dX11_sell_96 rfl rfl ?_
            refine g_icmp_lt (n := 100) (t := 123) C dX11_sell_97 rfl (by decide) (fun zc97 => ?_) (fun zc97 => ?_)
            · --t97
              refine g_iinc (n := 126) C dX11_sell_123 rfl rfl rfl (by decide) ?_
              refine g_goto (t := 73) C dX11_sell_126 (by decide) ?_
              exact g_lv [0, 1, 2, 3, 4] rfl (ihp (i_lt (n := 6) rfl zc77 hlep (by decide)) _ _ (by first | exact eb.trans (rbuy_1 zc97) | exact rbuy_2 zc97 (by rw [← eb]; exact zc101) | exact eb.trans (rbuy_3 zc97 (by rw [← eb]; exact zc101) ei (by omega) zc117) | exact rbuy_4 zc97 (by rw [← eb]; exact zc101) ei (by omega) zc117) (nI_1 p))
            · --f97
              refine g_iload_n (n := 101) C dX11_sell_100 rfl rfl ?_
              refine g_if_lt (n := 104) (t := 120) C dX11_sell_101 rfl (by decide) (fun zc101 => ?_) (fun zc101 => ?_)
              ·
                refine g_iload (n := 122) C dX11_sell_120 rfl rfl ?_
                refine g_istore_n (n := 123) C dX11_sell_122 rfl (by decide) ?_
                refine g_iinc (n := 126) C dX11_sell_123 rfl rfl rfl (by decide) ?_
                refine g_goto (t := 73) C dX11_sell_126 (by decide) ?_
                exact g_lv [0, 1, 2, 3, 4] rfl (ihp (i_lt (n := 6) rfl zc77 hlep (by decide)) _ _ (by first | exact eb.trans (rbuy_1 zc97) | exact rbuy_2 zc97 (by rw [← eb]; exact zc101) | exact eb.trans (rbuy_3 zc97 (by rw [← eb]; exact zc101) ei (by omega) zc117) | exact rbuy_4 zc97 (by rw [← eb]; exact zc101) ei (by omega) zc117) (nI_1 p))
              ·
                obtain ⟨i, hi, ei⟩ := rbuy_ge (by omega) (by rw [← eb]; exact zc101)
                refine g_iload (n := 106) C dX11_sell_104 rfl rfl ?_
                refine g_aload_n (n := 107) C dX11_sell_106 rfl rfl ?_
                refine m_get (n := 110) 22 C dX11_sell_107 rfl (by decide) rfl w_1122 rfl ?_
                refine g_bipush (n := 112) (v := 6) C dX11_sell_110 rfl (by decide) ?_
                refine g_iload_n (n := 113) C dX11_sell_112 rfl rfl ?_
                refine g_imul (n := 114) C dX11_sell_113 rfl ?_
                refine g_iload_n (n := 115) C dX11_sell_114 rfl rfl ?_
                refine g_iadd (n := 116) C dX11_sell_115 rfl ?_
                refine m_iald (n := 117) 22 (6 * j + i) C dX11_sell_116 rfl I (by decide) rfl (by rw [eb, ei]; exact ix6 rfl i) (by omega) (by decide) rfl ?_
                refine g_icmp_le (n := 120) (t := 123) C dX11_sell_117 rfl (by decide) (fun zc117 => ?_) (fun zc117 => ?_)
                · --t117
                  refine g_iinc (n := 126) C dX11_sell_123 rfl rfl rfl (by decide) ?_
                  refine g_goto (t := 73) C dX11_sell_126 (by decide) ?_
                  exact g_lv [0, 1, 2, 3, 4] rfl (ihp (i_lt (n := 6) rfl zc77 hlep (by decide)) _ _ (by first | exact eb.trans (rbuy_1 zc97) | exact rbuy_2 zc97 (by rw [← eb]; exact zc101) | exact eb.trans (rbuy_3 zc97 (by rw [← eb]; exact zc101) ei (by omega) zc117) | exact rbuy_4 zc97 (by rw [← eb]; exact zc101) ei (by omega) zc117) (nI_1 p))
                · --f117
                  refine g_iload (n := 122) C dX11_sell_120 rfl rfl ?_
                  refine g_istore_n (n := 123) C dX11_sell_122 rfl (by decide) ?_
                  refine g_iinc (n := 126) C dX11_sell_123 rfl rfl rfl (by decide) ?_
                  refine g_goto (t := 73) C dX11_sell_126 (by decide) ?_
                  exact g_lv [0, 1, 2, 3, 4] rfl (ihp (i_lt (n := 6) rfl zc77 hlep (by decide)) _ _ (by first | exact eb.trans (rbuy_1 zc97) | exact rbuy_2 zc97 (by rw [← eb]; exact zc101) | exact eb.trans (rbuy_3 zc97 (by rw [← eb]; exact zc101) ei (by omega) zc117) | exact rbuy_4 zc97 (by rw [← eb]; exact zc101) ei (by omega) zc117) (nI_1 p))
        exact g_lv [0, 1, 2, 3, 4] rfl (lp 0 (Nat.zero_le _) _ _ rfl rfl)
      · --f52
        refine g_aload_n (n := 56) C dX11_sell_55 rfl rfl ?_
        refine m_get (n := 59) 0 C dX11_sell_56 rfl (by decide) rfl w_1100 rfl ?_
        refine g_if_eq (n := 62) (t := 66) C dX11_sell_59 rfl (by decide) (fun zc59 => ?_) (fun zc59 => ?_)
        rotate_left
        · exact absurd (show (0 : Int32) = 0 from rfl) zc59
        refine g_iconst (n := 67) (v := (-1)) C dX11_sell_66 rfl (by decide) ?_
        refine g_iret C dX11_sell_67 (by decide) (by decide) ?_
        first | exact k1 (by assumption) | exact k2 j hj rfl (Or.inl (by assumption)) | exact k2 j hj rfl (Or.inr (by assumption)) | exact k3 j hj rfl (n_or (by assumption) (by assumption)) (Int32.not_lt.mpr (Int32.not_lt.mp (by assumption)))
    · --k23.1
      refine g_if_ne (n := 29) (t := 33) C dX11_sell_26 rfl (by decide) (fun zc26 => ?_) (fun zc26 => ?_)
      · exact absurd zc26 (by decide)
      refine g_iconst (n := 30) (v := 1) C dX11_sell_29 rfl (by decide) ?_
      refine g_goto (t := 34) C dX11_sell_30 (by decide) ?_
      refine g_iconst (n := 35) (v := 2) C dX11_sell_34 rfl (by decide) ?_
      refine g_callV (n := 38) (As := [.int _, .int _]) C dX11_sell_35 rfl mw_X11_throwsIf w_1257 (g_recv C mh_o rfl) rfl rfl (room hR rfl) (ct_throwsIf1 ?_)
      refine g_if_ne (n := 41) (t := 55) C dX11_sell_38 rfl (by decide) (fun zc38 => ?_) (fun zc38 => ?_)
      rotate_left
      · exact absurd zc38 (by decide)
      refine g_aload_n (n := 56) C dX11_sell_55 rfl rfl ?_
      refine m_get (n := 59) 0 C dX11_sell_56 rfl (by decide) rfl w_1100 rfl ?_
      refine g_if_eq (n := 62) (t := 66) C dX11_sell_59 rfl (by decide) (fun zc59 => ?_) (fun zc59 => ?_)
      · exact absurd (show (2 : Int32) = 0 from zc59) (by decide)
      refine g_iconst (n := 63) (v := 0) C dX11_sell_62 rfl (by decide) ?_
      refine g_goto (t := 67) C dX11_sell_63 (by decide) ?_
      refine g_iret C dX11_sell_67 (by decide) (by decide) ?_
      first | exact k1 (by assumption) | exact k2 j hj rfl (Or.inl (by assumption)) | exact k2 j hj rfl (Or.inr (by assumption)) | exact k3 j hj rfl (n_or (by assumption) (by assumption)) (Int32.not_lt.mpr (Int32.not_lt.mp (by assumption)))
    · --k23.2
      refine g_if_ne (n := 29) (t := 33) C dX11_sell_26 rfl (by decide) (fun zc26 => ?_) (fun zc26 => ?_)
      · exact absurd zc26 (by decide)
      refine g_iconst (n := 30) (v := 1) C dX11_sell_29 rfl (by decide) ?_
      refine g_goto (t := 34) C dX11_sell_30 (by decide) ?_
      refine g_iconst (n := 35) (v := 2) C dX11_sell_34 rfl (by decide) ?_
      refine g_callV (n := 38) (As := [.int _, .int _]) C dX11_sell_35 rfl mw_X11_throwsIf w_1257 (g_recv C mh_o rfl) rfl rfl (room hR rfl) (ct_throwsIf1 ?_)
      refine g_if_ne (n := 41) (t := 55) C dX11_sell_38 rfl (by decide) (fun zc38 => ?_) (fun zc38 => ?_)
      rotate_left
      · exact absurd zc38 (by decide)
      refine g_aload_n (n := 56) C dX11_sell_55 rfl rfl ?_
      refine m_get (n := 59) 0 C dX11_sell_56 rfl (by decide) rfl w_1100 rfl ?_
      refine g_if_eq (n := 62) (t := 66) C dX11_sell_59 rfl (by decide) (fun zc59 => ?_) (fun zc59 => ?_)
      · exact absurd (show (2 : Int32) = 0 from zc59) (by decide)
      refine g_iconst (n := 63) (v := 0) C dX11_sell_62 rfl (by decide) ?_
      refine g_goto (t := 67) C dX11_sell_63 (by decide) ?_
      refine g_iret C dX11_sell_67 (by decide) (by decide) ?_
      first | exact k1 (by assumption) | exact k2 j hj rfl (Or.inl (by assumption)) | exact k2 j hj rfl (Or.inr (by assumption)) | exact k3 j hj rfl (n_or (by assumption) (by assumption)) (Int32.not_lt.mpr (Int32.not_lt.mp (by assumption)))
  · --k8.1
    refine g_iconst (n := 12) (v := 1) C dX11_sell_11 rfl (by decide) ?_
    refine g_callV (n := 15) (As := [.int _, .int _]) C dX11_sell_12 rfl mw_X11_throwsIf w_1257 (g_recv C mh_o rfl) rfl rfl (room hR rfl) (ct_throwsIf1 ?_)
    refine g_if_ne (n := 18) (t := 55) C dX11_sell_15 rfl (by decide) (fun zc15 => ?_) (fun zc15 => ?_)
    rotate_left
    · exact absurd zc15 (by decide)
    refine g_aload_n (n := 56) C dX11_sell_55 rfl rfl ?_
    refine m_get (n := 59) 0 C dX11_sell_56 rfl (by decide) rfl w_1100 rfl ?_
    refine g_if_eq (n := 62) (t := 66) C dX11_sell_59 rfl (by decide) (fun zc59 => ?_) (fun zc59 => ?_)
    · exact absurd (show (1 : Int32) = 0 from zc59) (by decide)
    refine g_iconst (n := 63) (v := 0) C dX11_sell_62 rfl (by decide) ?_
    refine g_goto (t := 67) C dX11_sell_63 (by decide) ?_
    refine g_iret C dX11_sell_67 (by decide) (by decide) ?_
    first | exact k1 (by assumption) | exact k2 j hj rfl (Or.inl (by assumption)) | exact k2 j hj rfl (Or.inr (by assumption)) | exact k3 j hj rfl (n_or (by assumption) (by assumption)) (Int32.not_lt.mpr (Int32.not_lt.mp (by assumption)))
