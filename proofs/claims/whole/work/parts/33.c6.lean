/-- what the class reads as a number at p: its value, where it goes on, the fault -/
noncomputable def cnum (T : Nat → Int32) (n p : Nat) (lo hi ff : Int32) : Int32 × Nat × Int32 := @ite _ (rnok T p (rsc T 48 57 n p) lo hi) (Classical.propDecidable _) (rnv T p (rsc T 48 57 n p - p), rsc T 32 32 n (rsc T 48 57 n p), ff) (-1, p, cff ff (nI p))
noncomputable def cxw (T : Nat → Int32) (n p i : Nat) (ff : Int32) : Nat × Int32 := @ite _ (rwd T p (rsc T 97 122 n p) i) (Classical.propDecidable _) (rsc T 32 32 n (rsc T 97 122 n p), ff) (p, cff ff (nI p))
theorem cnum_le {T : Nat → Int32} {n p : Nat} {lo hi ff : Int32} (h : p ≤ n) : (cnum T n p lo hi ff).2.1 ≤ n := by
  unfold cnum
  split
  · exact rsc_le (rsc_le h)
  · exact h
theorem cxw_le {T : Nat → Int32} {n p i : Nat} {ff : Int32} (h : p ≤ n) : (cxw T n p i ff).1 ≤ n := by
  unfold cxw
  split
  · exact rsc_le (rsc_le h)
  · exact h
theorem cc_xnumS {l : Launch} {E : Ev} {P : Value → AH → Prop} {r t b n : Nat} {B : Nat → Int32} {ff : Int32} {h : AH} (ht : h t = some (.inr (9, [.ref b, .int (nI n)]))) (hb : h b = some (.inl (E.2.2 0, 400, .inl B))) (hn : n ≤ 400) (htr : t ∉ [r]) (hbr : b ∉ [r]) {p : Nat} (hp4 : p ≤ n) {lo hi : Int32} (hp : P (.int (cnum (cT B) n p lo hi ff).1) (LW [(r, .inr (6, [.ref t, .int (nI (cnum (cT B) n p lo hi ff).2.1), .int (cnum (cT B) n p lo hi ff).2.2]))] h)) : Mt l E yX6_expectNumber cX6_expectNumber 6 (some .int) 2 42 0 0 [.ref r, .int lo, .int hi] (LW [(r, .inr (6, [.ref t, .int (nI p), .int ff]))] h) P :=
  cc_xnum ht hb hn htr hbr hp4 (fun q => by rw [cnum, if_pos q] at hp; exact hp) (fun q => by rw [cnum, if_neg q] at hp; exact hp)
theorem cc_xwordS {l : Launch} {E : Ev} {P : Value → AH → Prop} {r t b n : Nat} {B : Nat → Int32} {ff : Int32} {h : AH} (ht : h t = some (.inr (9, [.ref b, .int (nI n)]))) (hb : h b = some (.inl (E.2.2 0, 400, .inl B))) (hn : n ≤ 400) (htr : t ∉ [r]) (hbr : b ∉ [r]) {p : Nat} (hp4 : p ≤ n) {i : Nat} (hi : i < 11) (hp : P .null (LW [(r, .inr (6, [.ref t, .int (nI (cxw (cT B) n p i ff).1), .int (cxw (cT B) n p i ff).2]))] h)) : Mt l E yX6_expectWord cX6_expectWord 2 none 5 108 0 0 [.ref r, .ref (E.2.2 (20 + i))] (LW [(r, .inr (6, [.ref t, .int (nI p), .int ff]))] h) P :=
  cc_xword ht hb hn htr hbr hp4 hi (fun q => by rw [cxw, if_pos q] at hp; exact hp) (fun q => by rw [cxw, if_neg q] at hp; exact hp)
section BROWS3
variable {K : Cx} {E : Ev} {cc : ByteArray} {nL : Nat} {own : String} {ret : Option FieldType} {nm : String} {Q : State → Prop} {cs ss pc : Nat} {lv : List (Nat × Value)} {st : List Value} {h : AH}
theorem b_iast {n a N : Nat} {f : Nat → Int32} {y x : Int32} {L : List (Nat × va_E)} (j : Nat) (C : GX K E cc nL own ret nm) (hd : decode cc pc = .ok (.iastore, 1)) (hn : pc + 1 = n) (he : h a = some (.inl (E.2.2 1, N, .inl f))) (hb : a ∉ L.map Prod.fst) (hx : y = nI j) (hj : j < N) (hN : N < 2147483648) (k : G K E nL Q cs ss n lv st (LW L (hset h a (.inl (E.2.2 1, N, .inl (upd f j x)))))) : G K E nL Q cs ss pc lv (.int x :: .int y :: .ref a :: st) (LW L h) := by
  subst hx
  refine g_iast C hd hn ((LW_nb hb).trans he) (vp_in_nI hj hN) ?_
  rw [nI_clamp (by omega), LW_under hb]
  exact k
end BROWS3
theorem dX0_readClause_0 : decode cX0_readClause 0 = .ok (.aload_n 1, 1) := by decide +kernel
theorem dX0_readClause_1 : decode cX0_readClause 1 = .ok (.ldc 15, 2) := by decide +kernel
theorem dX0_readClause_3 : decode cX0_readClause 3 = .ok (.invokevirtual 17, 3) := by decide +kernel
theorem dX0_readClause_6 : decode cX0_readClause 6 = .ok (.ifCond .eq 17, 3) := by decide +kernel
theorem dX0_readClause_9 : decode cX0_readClause 9 = .ok (.aload_n 1, 1) := by decide +kernel
theorem dX0_readClause_10 : decode cX0_readClause 10 = .ok (.ldc 23, 2) := by decide +kernel
theorem dX0_readClause_12 : decode cX0_readClause 12 = .ok (.invokevirtual 25, 3) := by decide +kernel
theorem dX0_readClause_15 : decode cX0_readClause 15 = .ok (.aload_n 0, 1) := by decide +kernel
theorem dX0_readClause_16 : decode cX0_readClause 16 = .ok (.iconst 1, 1) := by decide +kernel
theorem dX0_readClause_17 : decode cX0_readClause 17 = .ok (.putfield 29, 3) := by decide +kernel
theorem dX0_readClause_20 : decode cX0_readClause 20 = .ok (.goto 149, 3) := by decide +kernel
theorem dX0_readClause_23 : decode cX0_readClause 23 = .ok (.aload_n 1, 1) := by decide +kernel
theorem dX0_readClause_24 : decode cX0_readClause 24 = .ok (.ldc 33, 2) := by decide +kernel
theorem dX0_readClause_26 : decode cX0_readClause 26 = .ok (.invokevirtual 17, 3) := by decide +kernel
theorem dX0_readClause_29 : decode cX0_readClause 29 = .ok (.ifCond .eq 19, 3) := by decide +kernel
theorem dX0_readClause_32 : decode cX0_readClause 32 = .ok (.aload_n 0, 1) := by decide +kernel
theorem dX0_readClause_33 : decode cX0_readClause 33 = .ok (.getfield 9, 3) := by decide +kernel
theorem dX0_readClause_36 : decode cX0_readClause 36 = .ok (.iconst 1, 1) := by decide +kernel
theorem dX0_readClause_37 : decode cX0_readClause 37 = .ok (.aload_n 1, 1) := by decide +kernel
theorem dX0_readClause_38 : decode cX0_readClause 38 = .ok (.iconst 0, 1) := by decide +kernel
theorem dX0_readClause_39 : decode cX0_readClause 39 = .ok (.bipush 100, 2) := by decide +kernel
theorem dX0_readClause_41 : decode cX0_readClause 41 = .ok (.invokevirtual 35, 3) := by decide +kernel
theorem dX0_readClause_44 : decode cX0_readClause 44 = .ok (.iastore, 1) := by decide +kernel
theorem dX0_readClause_45 : decode cX0_readClause 45 = .ok (.goto 124, 3) := by decide +kernel
theorem dX0_readClause_48 : decode cX0_readClause 48 = .ok (.aload_n 1, 1) := by decide +kernel
theorem dX0_readClause_49 : decode cX0_readClause 49 = .ok (.ldc 39, 2) := by decide +kernel
theorem dX0_readClause_51 : decode cX0_readClause 51 = .ok (.invokevirtual 17, 3) := by decide +kernel
theorem dX0_readClause_54 : decode cX0_readClause 54 = .ok (.ifCond .eq 19, 3) := by decide +kernel
theorem dX0_readClause_57 : decode cX0_readClause 57 = .ok (.aload_n 0, 1) := by decide +kernel
theorem dX0_readClause_58 : decode cX0_readClause 58 = .ok (.getfield 9, 3) := by decide +kernel
theorem dX0_readClause_61 : decode cX0_readClause 61 = .ok (.iconst 2, 1) := by decide +kernel
theorem dX0_readClause_62 : decode cX0_readClause 62 = .ok (.aload_n 1, 1) := by decide +kernel
theorem dX0_readClause_63 : decode cX0_readClause 63 = .ok (.iconst 0, 1) := by decide +kernel
theorem dX0_readClause_64 : decode cX0_readClause 64 = .ok (.bipush 100, 2) := by decide +kernel
theorem dX0_readClause_66 : decode cX0_readClause 66 = .ok (.invokevirtual 35, 3) := by decide +kernel
theorem dX0_readClause_69 : decode cX0_readClause 69 = .ok (.iastore, 1) := by decide +kernel
theorem dX0_readClause_70 : decode cX0_readClause 70 = .ok (.goto 99, 3) := by decide +kernel
theorem dX0_readClause_73 : decode cX0_readClause 73 = .ok (.aload_n 1, 1) := by decide +kernel
theorem dX0_readClause_74 : decode cX0_readClause 74 = .ok (.ldc 41, 2) := by decide +kernel
theorem dX0_readClause_76 : decode cX0_readClause 76 = .ok (.invokevirtual 17, 3) := by decide +kernel
theorem dX0_readClause_79 : decode cX0_readClause 79 = .ok (.ifCond .eq 36, 3) := by decide +kernel
theorem dX0_readClause_82 : decode cX0_readClause 82 = .ok (.aload_n 0, 1) := by decide +kernel
theorem dX0_readClause_83 : decode cX0_readClause 83 = .ok (.getfield 9, 3) := by decide +kernel
theorem dX0_readClause_86 : decode cX0_readClause 86 = .ok (.iconst 3, 1) := by decide +kernel
theorem dX0_readClause_87 : decode cX0_readClause 87 = .ok (.aload_n 1, 1) := by decide +kernel
theorem dX0_readClause_88 : decode cX0_readClause 88 = .ok (.iconst 0, 1) := by decide +kernel
theorem dX0_readClause_89 : decode cX0_readClause 89 = .ok (.bipush 100, 2) := by decide +kernel
theorem dX0_readClause_91 : decode cX0_readClause 91 = .ok (.invokevirtual 35, 3) := by decide +kernel
theorem dX0_readClause_94 : decode cX0_readClause 94 = .ok (.iastore, 1) := by decide +kernel
theorem dX0_readClause_95 : decode cX0_readClause 95 = .ok (.aload_n 1, 1) := by decide +kernel
theorem dX0_readClause_96 : decode cX0_readClause 96 = .ok (.ldc 43, 2) := by decide +kernel
theorem dX0_readClause_98 : decode cX0_readClause 98 = .ok (.invokevirtual 25, 3) := by decide +kernel
theorem dX0_readClause_101 : decode cX0_readClause 101 = .ok (.aload_n 0, 1) := by decide +kernel
theorem dX0_readClause_102 : decode cX0_readClause 102 = .ok (.aload_n 1, 1) := by decide +kernel
theorem dX0_readClause_103 : decode cX0_readClause 103 = .ok (.iconst 0, 1) := by decide +kernel
theorem dX0_readClause_104 : decode cX0_readClause 104 = .ok (.ldc 45, 2) := by decide +kernel
theorem dX0_readClause_106 : decode cX0_readClause 106 = .ok (.invokevirtual 35, 3) := by decide +kernel
theorem dX0_readClause_109 : decode cX0_readClause 109 = .ok (.putfield 46, 3) := by decide +kernel
theorem dX0_readClause_112 : decode cX0_readClause 112 = .ok (.goto 57, 3) := by decide +kernel
theorem dX0_readClause_115 : decode cX0_readClause 115 = .ok (.aload_n 1, 1) := by decide +kernel
theorem dX0_readClause_116 : decode cX0_readClause 116 = .ok (.ldc 49, 2) := by decide +kernel
theorem dX0_readClause_118 : decode cX0_readClause 118 = .ok (.invokevirtual 17, 3) := by decide +kernel
theorem dX0_readClause_121 : decode cX0_readClause 121 = .ok (.ifCond .eq 19, 3) := by decide +kernel
theorem dX0_readClause_124 : decode cX0_readClause 124 = .ok (.aload_n 0, 1) := by decide +kernel
theorem dX0_readClause_125 : decode cX0_readClause 125 = .ok (.getfield 9, 3) := by decide +kernel
theorem dX0_readClause_128 : decode cX0_readClause 128 = .ok (.iconst 4, 1) := by decide +kernel
theorem dX0_readClause_129 : decode cX0_readClause 129 = .ok (.aload_n 1, 1) := by decide +kernel
theorem dX0_readClause_130 : decode cX0_readClause 130 = .ok (.iconst 0, 1) := by decide +kernel
theorem dX0_readClause_131 : decode cX0_readClause 131 = .ok (.bipush 100, 2) := by decide +kernel
theorem dX0_readClause_133 : decode cX0_readClause 133 = .ok (.invokevirtual 35, 3) := by decide +kernel
theorem dX0_readClause_136 : decode cX0_readClause 136 = .ok (.iastore, 1) := by decide +kernel
theorem dX0_readClause_137 : decode cX0_readClause 137 = .ok (.goto 32, 3) := by decide +kernel
theorem dX0_readClause_140 : decode cX0_readClause 140 = .ok (.aload_n 1, 1) := by decide +kernel
theorem dX0_readClause_141 : decode cX0_readClause 141 = .ok (.ldc 51, 2) := by decide +kernel
theorem dX0_readClause_143 : decode cX0_readClause 143 = .ok (.invokevirtual 17, 3) := by decide +kernel
theorem dX0_readClause_146 : decode cX0_readClause 146 = .ok (.ifCond .eq 19, 3) := by decide +kernel
theorem dX0_readClause_149 : decode cX0_readClause 149 = .ok (.aload_n 0, 1) := by decide +kernel
theorem dX0_readClause_150 : decode cX0_readClause 150 = .ok (.getfield 9, 3) := by decide +kernel
theorem dX0_readClause_153 : decode cX0_readClause 153 = .ok (.iconst 5, 1) := by decide +kernel
theorem dX0_readClause_154 : decode cX0_readClause 154 = .ok (.aload_n 1, 1) := by decide +kernel
theorem dX0_readClause_155 : decode cX0_readClause 155 = .ok (.iconst 0, 1) := by decide +kernel
theorem dX0_readClause_156 : decode cX0_readClause 156 = .ok (.bipush 100, 2) := by decide +kernel
theorem dX0_readClause_158 : decode cX0_readClause 158 = .ok (.invokevirtual 35, 3) := by decide +kernel
theorem dX0_readClause_161 : decode cX0_readClause 161 = .ok (.iastore, 1) := by decide +kernel
theorem dX0_readClause_162 : decode cX0_readClause 162 = .ok (.goto 7, 3) := by decide +kernel
theorem dX0_readClause_165 : decode cX0_readClause 165 = .ok (.aload_n 1, 1) := by decide +kernel
theorem dX0_readClause_166 : decode cX0_readClause 166 = .ok (.invokevirtual 53, 3) := by decide +kernel
theorem dX0_readClause_169 : decode cX0_readClause 169 = .ok (.return_, 1) := by decide +kernel
set_option maxHeartbeats 4000000 in
set_option maxRecDepth 20000 in
theorem cc_agrClause {l : Launch} {E : Ev} {P : Value → AH → Prop}  {r t b n a u : Nat} {B : Nat → Int32} {ff : Int32} {h : AH} (ht : h t = some (.inr (9, [.ref b, .int (nI n)]))) (hb : h b = some (.inl (E.2.2 0, 400, .inl B))) (hn : n ≤ 400) (htr : t ∉ [r]) (hbr : b ∉ [r]) (har : a ∉ [r]) {p : Nat} (hp4 : p ≤ n) {cf un : Int32} {H : Nat → Int32} (ha : h a = some (.inr (1, [.ref u, .int cf, .int un]))) (hu : h u = some (.inl (E.2.2 1, 6, .inl H))) (hur : u ∉ [r]) (hau : a ≠ u) (htu : t ≠ u) (hbu : b ≠ u) (k3 : rwd (cT B) p (rsc (cT B) 97 122 n p) 3 → P .null (LW [(r, .inr (6, [.ref t, .int (nI (cxw (cT B) n (cbl B n (rsc (cT B) 97 122 n p)) 4 ff).1), .int (cxw (cT B) n (cbl B n (rsc (cT B) 97 122 n p)) 4 ff).2]))] (hset h a (.inr (1, [.ref u, .int 1, .int un]))))) (k5 : ¬ rwd (cT B) p (rsc (cT B) 97 122 n p) 3 → rwd (cT B) p (rsc (cT B) 97 122 n p) 5 → P .null (LW [(r, .inr (6, [.ref t, .int (nI (cnum (cT B) n (cbl B n (rsc (cT B) 97 122 n p)) 0 100 ff).2.1), .int (cnum (cT B) n (cbl B n (rsc (cT B) 97 122 n p)) 0 100 ff).2.2]))] (hset h u (.inl (E.2.2 1, 6, .inl (upd H 1 (cnum (cT B) n (cbl B n (rsc (cT B) 97 122 n p)) 0 100 ff).1)))))) (k6 : ¬ rwd (cT B) p (rsc (cT B) 97 122 n p) 3 → ¬ rwd (cT B) p (rsc (cT B) 97 122 n p) 5 → rwd (cT B) p (rsc (cT B) 97 122 n p) 6 → P .null (LW [(r, .inr (6, [.ref t, .int (nI (cnum (cT B) n (cbl B n (rsc (cT B) 97 122 n p)) 0 100 ff).2.1), .int (cnum (cT B) n (cbl B n (rsc (cT B) 97 122 n p)) 0 100 ff).2.2]))] (hset h u (.inl (E.2.2 1, 6, .inl (upd H 2 (cnum (cT B) n (cbl B n (rsc (cT B) 97 122 n p)) 0 100 ff).1)))))) (k7 : ¬ rwd (cT B) p (rsc (cT B) 97 122 n p) 3 → ¬ rwd (cT B) p (rsc (cT B) 97 122 n p) 5 → ¬ rwd (cT B) p (rsc (cT B) 97 122 n p) 6 → rwd (cT B) p (rsc (cT B) 97 122 n p) 7 → P .null (LW [(r, .inr (6, [.ref t, .int (nI (cnum (cT B) n (cxw (cT B) n (cnum (cT B) n (cbl B n (rsc (cT B) 97 122 n p)) 0 100 ff).2.1 8 (cnum (cT B) n (cbl B n (rsc (cT B) 97 122 n p)) 0 100 ff).2.2).1 0 999999 (cxw (cT B) n (cnum (cT B) n (cbl B n (rsc (cT B) 97 122 n p)) 0 100 ff).2.1 8 (cnum (cT B) n (cbl B n (rsc (cT B) 97 122 n p)) 0 100 ff).2.2).2).2.1), .int (cnum (cT B) n (cxw (cT B) n (cnum (cT B) n (cbl B n (rsc (cT B) 97 122 n p)) 0 100 ff).2.1 8 (cnum (cT B) n (cbl B n (rsc (cT B) 97 122 n p)) 0 100 ff).2.2).1 0 999999 (cxw (cT B) n (cnum (cT B) n (cbl B n (rsc (cT B) 97 122 n p)) 0 100 ff).2.1 8 (cnum (cT B) n (cbl B n (rsc (cT B) 97 122 n p)) 0 100 ff).2.2).2).2.2]))] (hset (hset h u (.inl (E.2.2 1, 6, .inl (upd H 3 (cnum (cT B) n (cbl B n (rsc (cT B) 97 122 n p)) 0 100 ff).1)))) a (.inr (1, [.ref u, .int cf, .int (cnum (cT B) n (cxw (cT B) n (cnum (cT B) n (cbl B n (rsc (cT B) 97 122 n p)) 0 100 ff).2.1 8 (cnum (cT B) n (cbl B n (rsc (cT B) 97 122 n p)) 0 100 ff).2.2).1 0 999999 (cxw (cT B) n (cnum (cT B) n (cbl B n (rsc (cT B) 97 122 n p)) 0 100 ff).2.1 8 (cnum (cT B) n (cbl B n (rsc (cT B) 97 122 n p)) 0 100 ff).2.2).2).1]))))) (k9 : ¬ rwd (cT B) p (rsc (cT B) 97 122 n p) 3 → ¬ rwd (cT B) p (rsc (cT B) 97 122 n p) 5 → ¬ rwd (cT B) p (rsc (cT B) 97 122 n p) 6 → ¬ rwd (cT B) p (rsc (cT B) 97 122 n p) 7 → rwd (cT B) p (rsc (cT B) 97 122 n p) 9 → P .null (LW [(r, .inr (6, [.ref t, .int (nI (cnum (cT B) n (cbl B n (rsc (cT B) 97 122 n p)) 0 100 ff).2.1), .int (cnum (cT B) n (cbl B n (rsc (cT B) 97 122 n p)) 0 100 ff).2.2]))] (hset h u (.inl (E.2.2 1, 6, .inl (upd H 4 (cnum (cT B) n (cbl B n (rsc (cT B) 97 122 n p)) 0 100 ff).1)))))) (k10 : ¬ rwd (cT B) p (rsc (cT B) 97 122 n p) 3 → ¬ rwd (cT B) p (rsc (cT B) 97 122 n p) 5 → ¬ rwd (cT B) p (rsc (cT B) 97 122 n p) 6 → ¬ rwd (cT B) p (rsc (cT B) 97 122 n p) 7 → ¬ rwd (cT B) p (rsc (cT B) 97 122 n p) 9 → rwd (cT B) p (rsc (cT B) 97 122 n p) 10 → P .null (LW [(r, .inr (6, [.ref t, .int (nI (cnum (cT B) n (cbl B n (rsc (cT B) 97 122 n p)) 0 100 ff).2.1), .int (cnum (cT B) n (cbl B n (rsc (cT B) 97 122 n p)) 0 100 ff).2.2]))] (hset h u (.inl (E.2.2 1, 6, .inl (upd H 5 (cnum (cT B) n (cbl B n (rsc (cT B) 97 122 n p)) 0 100 ff).1)))))) (kn : ¬ rwd (cT B) p (rsc (cT B) 97 122 n p) 3 → ¬ rwd (cT B) p (rsc (cT B) 97 122 n p) 5 → ¬ rwd (cT B) p (rsc (cT B) 97 122 n p) 6 → ¬ rwd (cT B) p (rsc (cT B) 97 122 n p) 7 → ¬ rwd (cT B) p (rsc (cT B) 97 122 n p) 9 → ¬ rwd (cT B) p (rsc (cT B) 97 122 n p) 10 → P .null (LW [(r, .inr (6, [.ref t, .int (nI p), .int (cff ff (nI p))]))] (h))) : Mt l E yX0_readClause cX0_readClause 2 none 6 129 0 0 [.ref a, .ref r] (LW [(r, .inr (6, [.ref t, .int (nI p), .int ff]))] h) P := by
  refine Mt.of (by decide) (Nat.le_of_ble_eq_true rfl) ?_
  intro K hK hR C
  have A0 : lA [(r, (.inr (6, [.ref t, .int (nI p), .int ff]) : va_E))] := lA_one _ _
  refine g_aload_n (n := 1) C dX0_readClause_0 rfl rfl ?_
  refine g_ldcS (n := 3) "costs" 23 C dX0_readClause_1 rfl (by decide) ?_
  refine g_callV (n := 6) (As := [.ref _]) C dX0_readClause_3 rfl mw_X6_takeWord w_561 (fun _ _ hH9 hS9 => g_recv (ci := 6) C (by refine LW_at ?_ 0 rfl; exact A0) rfl _ _ hH9 hS9) rfl rfl (room hR rfl) (cc_take ht hb hn htr hbr hp4 (i := 3) (by decide) (fun za3 => ?_) (fun zb3 => ?_))
  · --k3.0
    refine g_if_eq (n := 9) (t := 23) C dX0_readClause_6 rfl (by decide) (fun zc6 => ?_) (fun zc6 => ?_)
    · exact absurd zc6 (by decide)
    refine g_aload_n (n := 10) C dX0_readClause_9 rfl rfl ?_
    refine g_ldcS (n := 12) "first" 24 C dX0_readClause_10 rfl (by decide) ?_
    refine g_callV (n := 15) (As := [.ref _]) C dX0_readClause_12 rfl mw_X6_expectWord w_615 (fun _ _ hH9 hS9 => g_recv (ci := 6) C (by refine LW_at ?_ 0 rfl; exact A0) rfl _ _ hH9 hS9) rfl rfl (room hR rfl) (cc_xwordS ht hb hn htr hbr (rsc_le (rsc_le hp4)) (i := 4) (by decide) ?_)
    refine g_aload_n (n := 16) C dX0_readClause_15 rfl rfl ?_
    refine g_iconst (n := 17) (v := 1) C dX0_readClause_16 rfl (by decide) ?_
    refine b_put (n := 20) (T := TX0) (ty0 := tyX0) 1 C dX0_readClause_17 rfl ha har rfl (by decide) inX0 w_180 rfl tyX0_ok nmX0 rfl rfl rfl rfl (by show 1 < 3; decide) ?_
    dsimp only [List.set]
    refine g_goto (t := 169) C dX0_readClause_20 (by decide) ?_
    refine g_vret C dX0_readClause_169 (by decide) (by decide) ?_
    first | exact k3 za3 | exact k5 zb3 za26 | exact k6 zb3 zb26 za51 | exact k7 zb3 zb26 zb51 za76 | exact k9 zb3 zb26 zb51 zb76 za118 | exact k10 zb3 zb26 zb51 zb76 zb118 za143 | exact kn zb3 zb26 zb51 zb76 zb118 zb143
  · --k3.1
    refine g_if_eq (n := 9) (t := 23) C dX0_readClause_6 rfl (by decide) (fun zc6 => ?_) (fun zc6 => ?_)
    rotate_left
    · exact absurd zc6 (by decide)
    refine g_aload_n (n := 24) C dX0_readClause_23 rfl rfl ?_
    refine g_ldcS (n := 26) "land" 25 C dX0_readClause_24 rfl (by decide) ?_
    refine g_callV (n := 29) (As := [.ref _]) C dX0_readClause_26 rfl mw_X6_takeWord w_561 (fun _ _ hH9 hS9 => g_recv (ci := 6) C (by refine LW_at ?_ 0 rfl; exact A0) rfl _ _ hH9 hS9) rfl rfl (room hR rfl) (cc_take ht hb hn htr hbr hp4 (i := 5) (by decide) (fun za26 => ?_) (fun zb26 => ?_))
    · --k26.0
      refine g_if_eq (n := 32) (t := 48) C dX0_readClause_29 rfl (by decide) (fun zc29 => ?_) (fun zc29 => ?_)
      · exact absurd zc29 (by decide)
      refine g_aload_n (n := 33) C dX0_readClause_32 rfl rfl ?_
      refine b_get (n := 36) (T := TX0) 0 C dX0_readClause_33 rfl ha har rfl rfl (by decide) inX0 w_179 rfl ?_
      refine g_iconst (n := 37) (v := 1) C dX0_readClause_36 rfl (by decide) ?_
      refine g_aload_n (n := 38) C dX0_readClause_37 rfl rfl ?_
      refine g_iconst (n := 39) (v := 0) C dX0_readClause_38 rfl (by decide) ?_
      refine g_bipush (n := 41) (v := 100) C dX0_readClause_39 rfl (by decide) ?_
      refine g_callV (n := 44) (As := [.int _, .int _]) C dX0_readClause_41 rfl mw_X6_expectNumber w_625 (fun _ _ hH9 hS9 => g_recv (ci := 6) C (by refine LW_at ?_ 0 rfl; exact A0) rfl _ _ hH9 hS9) rfl rfl (room hR rfl) (cc_xnumS ht hb hn htr hbr (rsc_le (rsc_le hp4)) ?_)
      refine b_iast (n := 45) (1) C dX0_readClause_44 rfl hu hur rfl (by decide) (by decide) ?_
      refine g_goto (t := 169) C dX0_readClause_45 (by decide) ?_
      refine g_vret C dX0_readClause_169 (by decide) (by decide) ?_
      first | exact k3 za3 | exact k5 zb3 za26 | exact k6 zb3 zb26 za51 | exact k7 zb3 zb26 zb51 za76 | exact k9 zb3 zb26 zb51 zb76 za118 | exact k10 zb3 zb26 zb51 zb76 zb118 za143 | exact kn zb3 zb26 zb51 zb76 zb118 zb143
    · --k26.1
      refine g_if_eq (n := 32) (t := 48) C dX0_readClause_29 rfl (by decide) (fun zc29 => ?_) (fun zc29 => ?_)
      rotate_left
      · exact absurd zc29 (by decide)
      refine g_aload_n (n := 49) C dX0_readClause_48 rfl rfl ?_
      refine g_ldcS (n := 51) "licence" 26 C dX0_readClause_49 rfl (by decide) ?_
      refine g_callV (n := 54) (As := [.ref _]) C dX0_readClause_51 rfl mw_X6_takeWord w_561 (fun _ _ hH9 hS9 => g_recv (ci := 6) C (by refine LW_at ?_ 0 rfl; exact A0) rfl _ _ hH9 hS9) rfl rfl (room hR rfl) (cc_take ht hb hn htr hbr hp4 (i := 6) (by decide) (fun za51 => ?_) (fun zb51 => ?_))
      · --k51.0
        refine g_if_eq (n := 57) (t := 73) C dX0_readClause_54 rfl (by decide) (fun zc54 => ?_) (fun zc54 => ?_)
        · exact absurd zc54 (by decide)
        refine g_aload_n (n := 58) C dX0_readClause_57 rfl rfl ?_
        refine b_get (n := 61) (T := TX0) 0 C dX0_readClause_58 rfl ha har rfl rfl (by decide) inX0 w_179 rfl ?_
        refine g_iconst (n := 62) (v := 2) C dX0_readClause_61 rfl (by decide) ?_
        refine g_aload_n (n := 63) C dX0_readClause_62 rfl rfl ?_
        refine g_iconst (n := 64) (v := 0) C dX0_readClause_63 rfl (by decide) ?_
        refine g_bipush (n := 66) (v := 100) C dX0_readClause_64 rfl (by decide) ?_
        refine g_callV (n := 69) (As := [.int _, .int _]) C dX0_readClause_66 rfl mw_X6_expectNumber w_625 (fun _ _ hH9 hS9 => g_recv (ci := 6) C (by refine LW_at ?_ 0 rfl; exact A0) rfl _ _ hH9 hS9) rfl rfl (room hR rfl) (cc_xnumS ht hb hn htr hbr (rsc_le (rsc_le hp4)) ?_)
        refine b_iast (n := 70) (2) C dX0_readClause_69 rfl hu hur rfl (by decide) (by decide) ?_
        refine g_goto (t := 169) C dX0_readClause_70 (by decide) ?_
        refine g_vret C dX0_readClause_169 (by decide) (by decide) ?_
        first | exact k3 za3 | exact k5 zb3 za26 | exact k6 zb3 zb26 za51 | exact k7 zb3 zb26 zb51 za76 | exact k9 zb3 zb26 zb51 zb76 za118 | exact k10 zb3 zb26 zb51 zb76 zb118 za143 | exact kn zb3 zb26 zb51 zb76 zb118 zb143
      · --k51.1
        refine g_if_eq (n := 57) (t := 73) C dX0_readClause_54 rfl (by decide) (fun zc54 => ?_) (fun zc54 => ?_)
        rotate_left
        · exact absurd zc54 (by decide)
        refine g_aload_n (n := 74) C dX0_readClause_73 rfl rfl ?_
        refine g_ldcS (n := 76) "lender" 27 C dX0_readClause_74 rfl (by decide) ?_
        refine g_callV (n := 79) (As := [.ref _]) C dX0_readClause_76 rfl mw_X6_takeWord w_561 (fun _ _ hH9 hS9 => g_recv (ci := 6) C (by refine LW_at ?_ 0 rfl; exact A0) rfl _ _ hH9 hS9) rfl rfl (room hR rfl) (cc_take ht hb hn htr hbr hp4 (i := 7) (by decide) (fun za76 => ?_) (fun zb76 => ?_))
        · --k76.0
          refine g_if_eq (n := 82) (t := 115) C dX0_readClause_79 rfl (by decide) (fun zc79 => ?_) (fun zc79 => ?_)
          · exact absurd zc79 (by decide)
          refine g_aload_n (n := 83) C dX0_readClause_82 rfl rfl ?_
          refine b_get (n := 86) (T := TX0) 0 C dX0_readClause_83 rfl ha har rfl rfl (by decide) inX0 w_179 rfl ?_
          refine g_iconst (n := 87) (v := 3) C dX0_readClause_86 rfl (by decide) ?_
          refine g_aload_n (n := 88) C dX0_readClause_87 rfl rfl ?_
          refine g_iconst (n := 89) (v := 0) C dX0_readClause_88 rfl (by decide) ?_
          refine g_bipush (n := 91) (v := 100) C dX0_readClause_89 rfl (by decide) ?_
          refine g_callV (n := 94) (As := [.int _, .int _]) C dX0_readClause_91 rfl mw_X6_expectNumber w_625 (fun _ _ hH9 hS9 => g_recv (ci := 6) C (by refine LW_at ?_ 0 rfl; exact A0) rfl _ _ hH9 hS9) rfl rfl (room hR rfl) (cc_xnumS ht hb hn htr hbr (rsc_le (rsc_le hp4)) ?_)
          refine b_iast (n := 95) (3) C dX0_readClause_94 rfl hu hur rfl (by decide) (by decide) ?_
          have ht2 := (hset_ne h (.inl (E.2.2 1, 6, .inl (upd H 3 (cnum (cT B) n (cbl B n (rsc (cT B) 97 122 n p)) 0 100 ff).1)) : va_E) htu).trans ht
          have hb2 := (hset_ne h (.inl (E.2.2 1, 6, .inl (upd H 3 (cnum (cT B) n (cbl B n (rsc (cT B) 97 122 n p)) 0 100 ff).1)) : va_E) hbu).trans hb
          have ha2 := (hset_ne h (.inl (E.2.2 1, 6, .inl (upd H 3 (cnum (cT B) n (cbl B n (rsc (cT B) 97 122 n p)) 0 100 ff).1)) : va_E) hau).trans ha
          refine g_aload_n (n := 96) C dX0_readClause_95 rfl rfl ?_
          refine g_ldcS (n := 98) "until" 28 C dX0_readClause_96 rfl (by decide) ?_
          refine g_callV (n := 101) (As := [.ref _]) C dX0_readClause_98 rfl mw_X6_expectWord w_615 (fun _ _ hH9 hS9 => g_recv (ci := 6) C (by refine LW_at ?_ 0 rfl; exact A0) rfl _ _ hH9 hS9) rfl rfl (room hR rfl) (cc_xwordS ht2 hb2 hn htr hbr (cnum_le (rsc_le (rsc_le hp4))) (i := 8) (by decide) ?_)
          refine g_aload_n (n := 102) C dX0_readClause_101 rfl rfl ?_
          refine g_aload_n (n := 103) C dX0_readClause_102 rfl rfl ?_
          refine g_iconst (n := 104) (v := 0) C dX0_readClause_103 rfl (by decide) ?_
          refine g_ldc (n := 106) C dX0_readClause_104 rfl w_635 ?_
          refine g_callV (n := 109) (As := [.int _, .int _]) C dX0_readClause_106 rfl mw_X6_expectNumber w_625 (fun _ _ hH9 hS9 => g_recv (ci := 6) C (by refine LW_at ?_ 0 rfl; exact A0) rfl _ _ hH9 hS9) rfl rfl (room hR rfl) (cc_xnumS ht2 hb2 hn htr hbr (cxw_le (cnum_le (rsc_le (rsc_le hp4)))) ?_)
          refine b_put (n := 112) (T := TX0) (ty0 := tyX0) 2 C dX0_readClause_109 rfl ha2 har rfl (by decide) inX0 w_181 rfl tyX0_ok nmX0 rfl rfl rfl rfl (by show 2 < 3; decide) ?_
          dsimp only [List.set]
          refine g_goto (t := 169) C dX0_readClause_112 (by decide) ?_
          refine g_vret C dX0_readClause_169 (by decide) (by decide) ?_
          first | exact k3 za3 | exact k5 zb3 za26 | exact k6 zb3 zb26 za51 | exact k7 zb3 zb26 zb51 za76 | exact k9 zb3 zb26 zb51 zb76 za118 | exact k10 zb3 zb26 zb51 zb76 zb118 za143 | exact kn zb3 zb26 zb51 zb76 zb118 zb143
        · --k76.1
          refine g_if_eq (n := 82) (t := 115) C dX0_readClause_79 rfl (by decide) (fun zc79 => ?_) (fun zc79 => ?_)
          rotate_left
          · exact absurd zc79 (by decide)
          refine g_aload_n (n := 116) C dX0_readClause_115 rfl rfl ?_
          refine g_ldcS (n := 118) "diggers" 29 C dX0_readClause_116 rfl (by decide) ?_
          refine g_callV (n := 121) (As := [.ref _]) C dX0_readClause_118 rfl mw_X6_takeWord w_561 (fun _ _ hH9 hS9 => g_recv (ci := 6) C (by refine LW_at ?_ 0 rfl; exact A0) rfl _ _ hH9 hS9) rfl rfl (room hR rfl) (cc_take ht hb hn htr hbr hp4 (i := 9) (by decide) (fun za118 => ?_) (fun zb118 => ?_))
          · --k118.0
            refine g_if_eq (n := 124) (t := 140) C dX0_readClause_121 rfl (by decide) (fun zc121 => ?_) (fun zc121 => ?_)
            · exact absurd zc121 (by decide)
            refine g_aload_n (n := 125) C dX0_readClause_124 rfl rfl ?_
            refine b_get (n := 128) (T := TX0) 0 C dX0_readClause_125 rfl ha har rfl rfl (by decide) inX0 w_179 rfl ?_
            refine g_iconst (n := 129) (v := 4) C dX0_readClause_128 rfl (by decide) ?_
            refine g_aload_n (n := 130) C dX0_readClause_129 rfl rfl ?_
            refine g_iconst (n := 131) (v := 0) C dX0_readClause_130 rfl (by decide) ?_
            refine g_bipush (n := 133) (v := 100) C dX0_readClause_131 rfl (by decide) ?_
            refine g_callV (n := 136) (As := [.int _, .int _]) C dX0_readClause_133 rfl mw_X6_expectNumber w_625 (fun _ _ hH9 hS9 => g_recv (ci := 6) C (by refine LW_at ?_ 0 rfl; exact A0) rfl _ _ hH9 hS9) rfl rfl (room hR rfl) (cc_xnumS ht hb hn htr hbr (rsc_le (rsc_le hp4)) ?_)
            refine b_iast (n := 137) (4) C dX0_readClause_136 rfl hu hur rfl (by decide) (by decide) ?_
            refine g_goto (t := 169) C dX0_readClause_137 (by decide) ?_
            refine g_vret C dX0_readClause_169 (by decide) (by decide) ?_
            first | exact k3 za3 | exact k5 zb3 za26 | exact k6 zb3 zb26 za51 | exact k7 zb3 zb26 zb51 za76 | exact k9 zb3 zb26 zb51 zb76 za118 | exact k10 zb3 zb26 zb51 zb76 zb118 za143 | exact kn zb3 zb26 zb51 zb76 zb118 zb143
          · --k118.1
            refine g_if_eq (n := 124) (t := 140) C dX0_readClause_121 rfl (by decide) (fun zc121 => ?_) (fun zc121 => ?_)
            rotate_left
            · exact absurd zc121 (by decide)
            refine g_aload_n (n := 141) C dX0_readClause_140 rfl rfl ?_
            refine g_ldcS (n := 143) "pump" 30 C dX0_readClause_141 rfl (by decide) ?_
            refine g_callV (n := 146) (As := [.ref _]) C dX0_readClause_143 rfl mw_X6_takeWord w_561 (fun _ _ hH9 hS9 => g_recv (ci := 6) C (by refine LW_at ?_ 0 rfl; exact A0) rfl _ _ hH9 hS9) rfl rfl (room hR rfl) (cc_take ht hb hn htr hbr hp4 (i := 10) (by decide) (fun za143 => ?_) (fun zb143 => ?_))
            · --k143.0
              refine g_if_eq (n := 149) (t := 165) C dX0_readClause_146 rfl (by decide) (fun zc146 => ?_) (fun zc146 => ?_)
              · exact absurd zc146 (by decide)
              refine g_aload_n (n := 150) C dX0_readClause_149 rfl rfl ?_
              refine b_get (n := 153) (T := TX0) 0 C dX0_readClause_150 rfl ha har rfl rfl (by decide) inX0 w_179 rfl ?_
              refine g_iconst (n := 154) (v := 5) C dX0_readClause_153 rfl (by decide) ?_
              refine g_aload_n (n := 155) C dX0_readClause_154 rfl rfl ?_
              refine g_iconst (n := 156) (v := 0) C dX0_readClause_155 rfl (by decide) ?_
              refine g_bipush (n := 158) (v := 100) C dX0_readClause_156 rfl (by decide) ?_
              refine g_callV (n := 161) (As := [.int _, .int _]) C dX0_readClause_158 rfl mw_X6_expectNumber w_625 (fun _ _ hH9 hS9 => g_recv (ci := 6) C (by refine LW_at ?_ 0 rfl; exact A0) rfl _ _ hH9 hS9) rfl rfl (room hR rfl) (cc_xnumS ht hb hn htr hbr (rsc_le (rsc_le hp4)) ?_)
              refine b_iast (n := 162) (5) C dX0_readClause_161 rfl hu hur rfl (by decide) (by decide) ?_
              refine g_goto (t := 169) C dX0_readClause_162 (by decide) ?_
              refine g_vret C dX0_readClause_169 (by decide) (by decide) ?_
              first | exact k3 za3 | exact k5 zb3 za26 | exact k6 zb3 zb26 za51 | exact k7 zb3 zb26 zb51 za76 | exact k9 zb3 zb26 zb51 zb76 za118 | exact k10 zb3 zb26 zb51 zb76 zb118 za143 | exact kn zb3 zb26 zb51 zb76 zb118 zb143
            · --k143.1
              refine g_if_eq (n := 149) (t := 165) C dX0_readClause_146 rfl (by decide) (fun zc146 => ?_) (fun zc146 => ?_)
              rotate_left
              · exact absurd zc146 (by decide)
              refine g_aload_n (n := 166) C dX0_readClause_165 rfl rfl ?_
              refine g_callV (n := 169) (As := []) C dX0_readClause_166 rfl mw_X6_refuse w_638 (fun _ _ hH9 hS9 => g_recv (ci := 6) C (by refine LW_at ?_ 0 rfl; exact A0) rfl _ _ hH9 hS9) rfl rfl (room hR rfl) (cc_refuse ?_)
              refine g_vret C dX0_readClause_169 (by decide) (by decide) ?_
              first | exact k3 za3 | exact k5 zb3 za26 | exact k6 zb3 zb26 za51 | exact k7 zb3 zb26 zb51 za76 | exact k9 zb3 zb26 zb51 zb76 za118 | exact k10 zb3 zb26 zb51 zb76 zb118 za143 | exact kn zb3 zb26 zb51 zb76 zb118 zb143
