theorem ixp {x : Int32} {a : Nat} (hx : x = nI a) (c k : Nat) : x + nI c + nI k = nI (a + c + k) := by rw [hx, nI_add, nI_add]
theorem ixq {x : Int32} {a : Nat} (hx : x = nI a) (c : Nat) : x + nI c = nI (a + c) := by rw [hx, nI_add]
theorem aset_self {A : Nat → Nat → Int32} {k j : Nat} {x : Int32} (h : A k j = x) : aset A k j x = A := by
  funext a b
  unfold aset
  by_cases h1 : a = k
  · rw [if_pos h1]
    by_cases h2 : b = j
    · rw [if_pos h2, h1, h2, h]
    · rw [if_neg h2]
  · rw [if_neg h1]
theorem aset_rd (A : Nat → Nat → Int32) {k j b : Nat} (x : Int32) (h : b ≠ j) : aset A k j x k b = A k b := aset_ne A x (fun q => h q.2)
def rsh (B : Nat → Nat → Int32) (lf : Int32) (k : Nat) : Int32 := lf * B 11 k / 100
def rle (B : Nat → Nat → Int32) (lf : Int32) : Int32 := imax 0 (imin (rsh B lf 3) (B 11 6 - B 25 3))
def rdi (B : Nat → Nat → Int32) (lf : Int32) : Int32 := rsh B lf 4 + (lf - rsh B lf 1 - rsh B lf 2 - rle B lf - rsh B lf 4 - rsh B lf 5)
/-- a price's parts, laid down from place a on: what is left behind the costs is lf -/
def rs1 (B : Nat → Nat → Int32) (a : Nat) (lf : Int32) : Nat → Nat → Int32 := aset B 21 (a + 4 + 1) (rsh B lf 1)
def rs2 (B : Nat → Nat → Int32) (a : Nat) (lf : Int32) : Nat → Nat → Int32 := aset (rs1 B a lf) 21 (a + 4 + 2) (rsh B lf 2)
def rs3 (B : Nat → Nat → Int32) (a : Nat) (lf : Int32) : Nat → Nat → Int32 := aset (rs2 B a lf) 21 (a + 4 + 3) (rle B lf)
def rs4 (B : Nat → Nat → Int32) (a : Nat) (lf : Int32) : Nat → Nat → Int32 := aset (rs3 B a lf) 21 (a + 4 + 4) (rsh B lf 4)
def rs5 (B : Nat → Nat → Int32) (a : Nat) (lf : Int32) : Nat → Nat → Int32 := aset (rs4 B a lf) 21 (a + 4 + 5) (rsh B lf 5)
def rst0 (B : Nat → Nat → Int32) (a : Nat) (lf : Int32) : Nat → Nat → Int32 := aset (rs5 B a lf) 21 (a + 8) (rdi B lf)
theorem rs1_r (B : Nat → Nat → Int32) (a : Nat) (lf : Int32) {k : Nat} (h : k ≠ 21) : rs1 B a lf k = B k := aset_row _ _ _ h
theorem rs2_r (B : Nat → Nat → Int32) (a : Nat) (lf : Int32) {k : Nat} (h : k ≠ 21) : rs2 B a lf k = B k := (aset_row _ _ _ h).trans (rs1_r B a lf h)
theorem rs3_r (B : Nat → Nat → Int32) (a : Nat) (lf : Int32) {k : Nat} (h : k ≠ 21) : rs3 B a lf k = B k := (aset_row _ _ _ h).trans (rs2_r B a lf h)
theorem rs4_r (B : Nat → Nat → Int32) (a : Nat) (lf : Int32) {k : Nat} (h : k ≠ 21) : rs4 B a lf k = B k := (aset_row _ _ _ h).trans (rs3_r B a lf h)
theorem rs5_r (B : Nat → Nat → Int32) (a : Nat) (lf : Int32) {k : Nat} (h : k ≠ 21) : rs5 B a lf k = B k := (aset_row _ _ _ h).trans (rs4_r B a lf h)
theorem rst0_r (B : Nat → Nat → Int32) (a : Nat) (lf : Int32) {k : Nat} (h : k ≠ 21) : rst0 B a lf k = B k := (aset_row _ _ _ h).trans (rs5_r B a lf h)
def rh1 (B : Nat → Nat → Int32) (a : Nat) (lf : Int32) : Nat → Nat → Int32 := aset (rst0 B a lf) 25 1 (B 25 1 + rsh B lf 1)
def rh2 (B : Nat → Nat → Int32) (a : Nat) (lf : Int32) : Nat → Nat → Int32 := aset (rh1 B a lf) 25 2 (B 25 2 + rsh B lf 2)
def rh3 (B : Nat → Nat → Int32) (a : Nat) (lf : Int32) : Nat → Nat → Int32 := aset (rh2 B a lf) 25 3 (B 25 3 + rle B lf)
def rh4 (B : Nat → Nat → Int32) (a : Nat) (lf : Int32) : Nat → Nat → Int32 := aset (rh3 B a lf) 25 4 (B 25 4 + rdi B lf)
def rtail (B : Nat → Nat → Int32) (a : Nat) (lf : Int32) : Nat → Nat → Int32 := aset (rh4 B a lf) 25 5 (B 25 5 + rsh B lf 5)
theorem rh1_21 (B : Nat → Nat → Int32) (a : Nat) (lf : Int32) : rh1 B a lf 21 = rst0 B a lf 21 := aset_row _ _ _ (by decide)
theorem rh2_21 (B : Nat → Nat → Int32) (a : Nat) (lf : Int32) : rh2 B a lf 21 = rst0 B a lf 21 := (aset_row _ _ _ (by decide)).trans (rh1_21 B a lf)
theorem rh3_21 (B : Nat → Nat → Int32) (a : Nat) (lf : Int32) : rh3 B a lf 21 = rst0 B a lf 21 := (aset_row _ _ _ (by decide)).trans (rh2_21 B a lf)
theorem rh4_21 (B : Nat → Nat → Int32) (a : Nat) (lf : Int32) : rh4 B a lf 21 = rst0 B a lf 21 := (aset_row _ _ _ (by decide)).trans (rh3_21 B a lf)
theorem rh0_25 (B : Nat → Nat → Int32) (a : Nat) (lf : Int32) (k : Nat) : rst0 B a lf 25 k = B 25 k := by rw [rst0_r B a lf (by decide)]
theorem rh1_25 (B : Nat → Nat → Int32) (a : Nat) (lf : Int32) {k : Nat} (h : 1 < k) : rh1 B a lf 25 k = B 25 k := (aset_rd _ _ (by omega)).trans (rh0_25 B a lf k)
theorem rh2_25 (B : Nat → Nat → Int32) (a : Nat) (lf : Int32) {k : Nat} (h : 2 < k) : rh2 B a lf 25 k = B 25 k := (aset_rd _ _ (by omega)).trans (rh1_25 B a lf (by omega))
theorem rh3_25 (B : Nat → Nat → Int32) (a : Nat) (lf : Int32) {k : Nat} (h : 3 < k) : rh3 B a lf 25 k = B 25 k := (aset_rd _ _ (by omega)).trans (rh2_25 B a lf (by omega))
theorem rh4_25 (B : Nat → Nat → Int32) (a : Nat) (lf : Int32) {k : Nat} (h : 4 < k) : rh4 B a lf 25 k = B 25 k := (aset_rd _ _ (by omega)).trans (rh3_25 B a lf (by omega))
theorem rsh_0 {B : Nat → Nat → Int32} {lf : Int32} {k : Nat} (h : B 11 k = 0) : rsh B lf k = 0 := by
  unfold rsh
  rw [h, Int32.mul_zero]
  decide
theorem rle_0 {B : Nat → Nat → Int32} {lf : Int32} (h : B 11 3 = 0) : rle B lf = 0 := by
  unfold rle imax imin
  rw [rsh_0 h]
  by_cases c : B 11 6 - B 25 3 < 0
  · rw [if_pos c, if_neg (fun q => absurd (Int32.lt_trans q c) (by decide))]
  · rw [if_neg c]; rfl
theorem rdi_0 {B : Nat → Nat → Int32} {lf : Int32} (h : ∀ k, B 11 k = 0) : rdi B lf = lf := by
  unfold rdi
  rw [rle_0 (h 3), rsh_0 (h 1), rsh_0 (h 2), rsh_0 (h 4), rsh_0 (h 5)]
  simp
theorem rst0_0 {B : Nat → Nat → Int32} {a : Nat} {lf : Int32} (h : ∀ k, B 11 k = 0) (z : ∀ k, 1 ≤ k → k < 6 → B 21 (a + 4 + k) = 0) : aset B 21 (a + 8) (0 + lf) = rst0 B a lf := by
  unfold rst0 rs5 rs4 rs3 rs2 rs1
  rw [rdi_0 h, rle_0 (h 3), rsh_0 (h 1), rsh_0 (h 2), rsh_0 (h 4), rsh_0 (h 5), aset_self (z 1 (by omega) (by omega)), aset_self (z 2 (by omega) (by omega)), aset_self (z 3 (by omega) (by omega)), aset_self (z 4 (by omega) (by omega)), aset_self (z 5 (by omega) (by omega)), Int32.zero_add]
theorem rst0_rd1 (B : Nat → Nat → Int32) (a : Nat) (lf : Int32) : rst0 B a lf 21 (a + 4 + 1) = rsh B lf 1 := by
  unfold rst0 rs5 rs4 rs3 rs2 rs1
  rw [aset_rd _ _ (by omega), aset_rd _ _ (by omega), aset_rd _ _ (by omega), aset_rd _ _ (by omega), aset_rd _ _ (by omega), aset_same]
theorem rst0_rd2 (B : Nat → Nat → Int32) (a : Nat) (lf : Int32) : rst0 B a lf 21 (a + 4 + 2) = rsh B lf 2 := by
  unfold rst0 rs5 rs4 rs3 rs2 rs1
  rw [aset_rd _ _ (by omega), aset_rd _ _ (by omega), aset_rd _ _ (by omega), aset_rd _ _ (by omega), aset_same]
theorem rst0_rd3 (B : Nat → Nat → Int32) (a : Nat) (lf : Int32) : rst0 B a lf 21 (a + 4 + 3) = rle B lf := by
  unfold rst0 rs5 rs4 rs3 rs2 rs1
  rw [aset_rd _ _ (by omega), aset_rd _ _ (by omega), aset_rd _ _ (by omega), aset_same]
theorem rst0_rd4 (B : Nat → Nat → Int32) (a : Nat) (lf : Int32) : rst0 B a lf 21 (a + 4 + 4) = rdi B lf := by
  unfold rst0
  exact aset_same _ _ _ _
theorem rst0_rd5 (B : Nat → Nat → Int32) (a : Nat) (lf : Int32) : rst0 B a lf 21 (a + 4 + 5) = rsh B lf 5 := by
  unfold rst0 rs5 rs4 rs3 rs2 rs1
  rw [aset_rd _ _ (by omega), aset_same]
def rco (F : Nat → Int32) (A : Nat → Nat → Int32) (x : Int32) : Int32 := if A 11 0 = 1 then imin (F 24) x else 0
/-- .. all that a sale at price x does to the reference's numbers and arrays -/
def rpF (F : Nat → Int32) (A : Nat → Nat → Int32) (x : Int32) : Nat → Int32 := upd F 24 (F 24 - rco F A x)
def rpA (F : Nat → Int32) (A : Nat → Nat → Int32) (a : Nat) (x : Int32) : Nat → Nat → Int32 := rtail (aset A 21 (a + 4) (rco F A x)) a (x - rco F A x)
theorem upd_self {F : Nat → Int32} {k : Nat} {x : Int32} (h : F k = x) : upd F k x = F := by
  funext j
  unfold upd
  by_cases q : j = k
  · rw [if_pos q, q, h]
  · rw [if_neg q]
theorem rp_no {F : Nat → Int32} {A : Nat → Nat → Int32} {x : Int32} (h : ¬ A 11 0 = 1) {a : Nat} (z : A 21 (a + 4) = 0) : rpF F A x = F ∧ rpA F A a x = rtail A a x := by
  have e : rco F A x = 0 := if_neg h
  unfold rpF rpA
  rw [e, aset_self z, Int32.sub_zero, Int32.sub_zero]
  exact ⟨upd_self rfl, rfl⟩
theorem dX11_parts_0 : decode cX11_parts 0 = .ok (.iload_n 2, 1) := by decide +kernel
theorem dX11_parts_1 : decode cX11_parts 1 = .ok (.istore_n 3, 1) := by decide +kernel
theorem dX11_parts_2 : decode cX11_parts 2 = .ok (.aload_n 0, 1) := by decide +kernel
theorem dX11_parts_3 : decode cX11_parts 3 = .ok (.getfield 166, 3) := by decide +kernel
theorem dX11_parts_6 : decode cX11_parts 6 = .ok (.ifCond .eq 57, 3) := by decide +kernel
theorem dX11_parts_9 : decode cX11_parts 9 = .ok (.aload_n 0, 1) := by decide +kernel
theorem dX11_parts_10 : decode cX11_parts 10 = .ok (.getfield 35, 3) := by decide +kernel
theorem dX11_parts_13 : decode cX11_parts 13 = .ok (.iconst 0, 1) := by decide +kernel
theorem dX11_parts_14 : decode cX11_parts 14 = .ok (.iaload, 1) := by decide +kernel
theorem dX11_parts_15 : decode cX11_parts 15 = .ok (.iconst 1, 1) := by decide +kernel
theorem dX11_parts_16 : decode cX11_parts 16 = .ok (.if_icmp .ne 47, 3) := by decide +kernel
theorem dX11_parts_19 : decode cX11_parts 19 = .ok (.aload_n 0, 1) := by decide +kernel
theorem dX11_parts_20 : decode cX11_parts 20 = .ok (.getfield 51, 3) := by decide +kernel
theorem dX11_parts_23 : decode cX11_parts 23 = .ok (.iload_n 1, 1) := by decide +kernel
theorem dX11_parts_24 : decode cX11_parts 24 = .ok (.iconst 4, 1) := by decide +kernel
theorem dX11_parts_25 : decode cX11_parts 25 = .ok (.iadd, 1) := by decide +kernel
theorem dX11_parts_26 : decode cX11_parts 26 = .ok (.aload_n 0, 1) := by decide +kernel
theorem dX11_parts_27 : decode cX11_parts 27 = .ok (.getfield 206, 3) := by decide +kernel
theorem dX11_parts_30 : decode cX11_parts 30 = .ok (.iload_n 2, 1) := by decide +kernel
theorem dX11_parts_31 : decode cX11_parts 31 = .ok (.invokestatic 195, 3) := by decide +kernel
theorem dX11_parts_34 : decode cX11_parts 34 = .ok (.iastore, 1) := by decide +kernel
theorem dX11_parts_35 : decode cX11_parts 35 = .ok (.aload_n 0, 1) := by decide +kernel
theorem dX11_parts_36 : decode cX11_parts 36 = .ok (.dup, 1) := by decide +kernel
theorem dX11_parts_37 : decode cX11_parts 37 = .ok (.getfield 206, 3) := by decide +kernel
theorem dX11_parts_40 : decode cX11_parts 40 = .ok (.aload_n 0, 1) := by decide +kernel
theorem dX11_parts_41 : decode cX11_parts 41 = .ok (.getfield 51, 3) := by decide +kernel
theorem dX11_parts_44 : decode cX11_parts 44 = .ok (.iload_n 1, 1) := by decide +kernel
theorem dX11_parts_45 : decode cX11_parts 45 = .ok (.iconst 4, 1) := by decide +kernel
theorem dX11_parts_46 : decode cX11_parts 46 = .ok (.iadd, 1) := by decide +kernel
theorem dX11_parts_47 : decode cX11_parts 47 = .ok (.iaload, 1) := by decide +kernel
theorem dX11_parts_48 : decode cX11_parts 48 = .ok (.isub, 1) := by decide +kernel
theorem dX11_parts_49 : decode cX11_parts 49 = .ok (.putfield 206, 3) := by decide +kernel
theorem dX11_parts_52 : decode cX11_parts 52 = .ok (.iload_n 3, 1) := by decide +kernel
theorem dX11_parts_53 : decode cX11_parts 53 = .ok (.aload_n 0, 1) := by decide +kernel
theorem dX11_parts_54 : decode cX11_parts 54 = .ok (.getfield 51, 3) := by decide +kernel
theorem dX11_parts_57 : decode cX11_parts 57 = .ok (.iload_n 1, 1) := by decide +kernel
theorem dX11_parts_58 : decode cX11_parts 58 = .ok (.iconst 4, 1) := by decide +kernel
theorem dX11_parts_59 : decode cX11_parts 59 = .ok (.iadd, 1) := by decide +kernel
theorem dX11_parts_60 : decode cX11_parts 60 = .ok (.iaload, 1) := by decide +kernel
theorem dX11_parts_61 : decode cX11_parts 61 = .ok (.isub, 1) := by decide +kernel
theorem dX11_parts_62 : decode cX11_parts 62 = .ok (.istore_n 3, 1) := by decide +kernel
theorem dX11_parts_63 : decode cX11_parts 63 = .ok (.iload_n 3, 1) := by decide +kernel
theorem dX11_parts_64 : decode cX11_parts 64 = .ok (.istore 4, 2) := by decide +kernel
theorem dX11_parts_66 : decode cX11_parts 66 = .ok (.iconst 1, 1) := by decide +kernel
theorem dX11_parts_67 : decode cX11_parts 67 = .ok (.istore 5, 2) := by decide +kernel
theorem dX11_parts_69 : decode cX11_parts 69 = .ok (.iload 5, 2) := by decide +kernel
theorem dX11_parts_71 : decode cX11_parts 71 = .ok (.bipush 6, 2) := by decide +kernel
theorem dX11_parts_73 : decode cX11_parts 73 = .ok (.if_icmp .ge 81, 3) := by decide +kernel
theorem dX11_parts_76 : decode cX11_parts 76 = .ok (.aload_n 0, 1) := by decide +kernel
theorem dX11_parts_77 : decode cX11_parts 77 = .ok (.getfield 166, 3) := by decide +kernel
theorem dX11_parts_80 : decode cX11_parts 80 = .ok (.ifCond .eq 74, 3) := by decide +kernel
theorem dX11_parts_83 : decode cX11_parts 83 = .ok (.iload_n 3, 1) := by decide +kernel
theorem dX11_parts_84 : decode cX11_parts 84 = .ok (.aload_n 0, 1) := by decide +kernel
theorem dX11_parts_85 : decode cX11_parts 85 = .ok (.getfield 35, 3) := by decide +kernel
theorem dX11_parts_88 : decode cX11_parts 88 = .ok (.iload 5, 2) := by decide +kernel
theorem dX11_parts_90 : decode cX11_parts 90 = .ok (.iaload, 1) := by decide +kernel
theorem dX11_parts_91 : decode cX11_parts 91 = .ok (.imul, 1) := by decide +kernel
theorem dX11_parts_92 : decode cX11_parts 92 = .ok (.bipush 100, 2) := by decide +kernel
theorem dX11_parts_94 : decode cX11_parts 94 = .ok (.idiv, 1) := by decide +kernel
theorem dX11_parts_95 : decode cX11_parts 95 = .ok (.istore 6, 2) := by decide +kernel
theorem dX11_parts_97 : decode cX11_parts 97 = .ok (.iload 5, 2) := by decide +kernel
theorem dX11_parts_99 : decode cX11_parts 99 = .ok (.iconst 3, 1) := by decide +kernel
theorem dX11_parts_100 : decode cX11_parts 100 = .ok (.if_icmp .ne 28, 3) := by decide +kernel
theorem dX11_parts_103 : decode cX11_parts 103 = .ok (.iconst 0, 1) := by decide +kernel
theorem dX11_parts_104 : decode cX11_parts 104 = .ok (.iload 6, 2) := by decide +kernel
theorem dX11_parts_106 : decode cX11_parts 106 = .ok (.aload_n 0, 1) := by decide +kernel
theorem dX11_parts_107 : decode cX11_parts 107 = .ok (.getfield 35, 3) := by decide +kernel
theorem dX11_parts_110 : decode cX11_parts 110 = .ok (.bipush 6, 2) := by decide +kernel
theorem dX11_parts_112 : decode cX11_parts 112 = .ok (.iaload, 1) := by decide +kernel
theorem dX11_parts_113 : decode cX11_parts 113 = .ok (.aload_n 0, 1) := by decide +kernel
theorem dX11_parts_114 : decode cX11_parts 114 = .ok (.getfield 57, 3) := by decide +kernel
theorem dX11_parts_117 : decode cX11_parts 117 = .ok (.iconst 3, 1) := by decide +kernel
theorem dX11_parts_118 : decode cX11_parts 118 = .ok (.iaload, 1) := by decide +kernel
theorem dX11_parts_119 : decode cX11_parts 119 = .ok (.isub, 1) := by decide +kernel
theorem dX11_parts_120 : decode cX11_parts 120 = .ok (.invokestatic 195, 3) := by decide +kernel
theorem dX11_parts_123 : decode cX11_parts 123 = .ok (.invokestatic 176, 3) := by decide +kernel
theorem dX11_parts_126 : decode cX11_parts 126 = .ok (.istore 6, 2) := by decide +kernel
theorem dX11_parts_128 : decode cX11_parts 128 = .ok (.aload_n 0, 1) := by decide +kernel
theorem dX11_parts_129 : decode cX11_parts 129 = .ok (.getfield 51, 3) := by decide +kernel
theorem dX11_parts_132 : decode cX11_parts 132 = .ok (.iload_n 1, 1) := by decide +kernel
theorem dX11_parts_133 : decode cX11_parts 133 = .ok (.iconst 4, 1) := by decide +kernel
theorem dX11_parts_134 : decode cX11_parts 134 = .ok (.iadd, 1) := by decide +kernel
theorem dX11_parts_135 : decode cX11_parts 135 = .ok (.iload 5, 2) := by decide +kernel
theorem dX11_parts_137 : decode cX11_parts 137 = .ok (.iadd, 1) := by decide +kernel
theorem dX11_parts_138 : decode cX11_parts 138 = .ok (.iload 6, 2) := by decide +kernel
theorem dX11_parts_140 : decode cX11_parts 140 = .ok (.iastore, 1) := by decide +kernel
theorem dX11_parts_141 : decode cX11_parts 141 = .ok (.iload 4, 2) := by decide +kernel
theorem dX11_parts_143 : decode cX11_parts 143 = .ok (.iload 6, 2) := by decide +kernel
theorem dX11_parts_145 : decode cX11_parts 145 = .ok (.isub, 1) := by decide +kernel
theorem dX11_parts_146 : decode cX11_parts 146 = .ok (.istore 4, 2) := by decide +kernel
theorem dX11_parts_148 : decode cX11_parts 148 = .ok (.iinc 5 1, 3) := by decide +kernel
theorem dX11_parts_151 : decode cX11_parts 151 = .ok (.goto (-82), 3) := by decide +kernel
theorem dX11_parts_154 : decode cX11_parts 154 = .ok (.aload_n 0, 1) := by decide +kernel
theorem dX11_parts_155 : decode cX11_parts 155 = .ok (.getfield 51, 3) := by decide +kernel
theorem dX11_parts_158 : decode cX11_parts 158 = .ok (.iload_n 1, 1) := by decide +kernel
theorem dX11_parts_159 : decode cX11_parts 159 = .ok (.bipush 8, 2) := by decide +kernel
theorem dX11_parts_161 : decode cX11_parts 161 = .ok (.iadd, 1) := by decide +kernel
theorem dX11_parts_162 : decode cX11_parts 162 = .ok (.dup2, 1) := by decide +kernel
theorem dX11_parts_163 : decode cX11_parts 163 = .ok (.iaload, 1) := by decide +kernel
theorem dX11_parts_164 : decode cX11_parts 164 = .ok (.iload 4, 2) := by decide +kernel
theorem dX11_parts_166 : decode cX11_parts 166 = .ok (.iadd, 1) := by decide +kernel
theorem dX11_parts_167 : decode cX11_parts 167 = .ok (.iastore, 1) := by decide +kernel
theorem dX11_parts_168 : decode cX11_parts 168 = .ok (.iconst 1, 1) := by decide +kernel
theorem dX11_parts_169 : decode cX11_parts 169 = .ok (.istore 5, 2) := by decide +kernel
theorem dX11_parts_171 : decode cX11_parts 171 = .ok (.iload 5, 2) := by decide +kernel
theorem dX11_parts_173 : decode cX11_parts 173 = .ok (.bipush 6, 2) := by decide +kernel
theorem dX11_parts_175 : decode cX11_parts 175 = .ok (.if_icmp .ge 30, 3) := by decide +kernel
theorem dX11_parts_178 : decode cX11_parts 178 = .ok (.aload_n 0, 1) := by decide +kernel
theorem dX11_parts_179 : decode cX11_parts 179 = .ok (.getfield 57, 3) := by decide +kernel
theorem dX11_parts_182 : decode cX11_parts 182 = .ok (.iload 5, 2) := by decide +kernel
theorem dX11_parts_184 : decode cX11_parts 184 = .ok (.dup2, 1) := by decide +kernel
theorem dX11_parts_185 : decode cX11_parts 185 = .ok (.iaload, 1) := by decide +kernel
theorem dX11_parts_186 : decode cX11_parts 186 = .ok (.aload_n 0, 1) := by decide +kernel
theorem dX11_parts_187 : decode cX11_parts 187 = .ok (.getfield 51, 3) := by decide +kernel
theorem dX11_parts_190 : decode cX11_parts 190 = .ok (.iload_n 1, 1) := by decide +kernel
theorem dX11_parts_191 : decode cX11_parts 191 = .ok (.iconst 4, 1) := by decide +kernel
theorem dX11_parts_192 : decode cX11_parts 192 = .ok (.iadd, 1) := by decide +kernel
theorem dX11_parts_193 : decode cX11_parts 193 = .ok (.iload 5, 2) := by decide +kernel
theorem dX11_parts_195 : decode cX11_parts 195 = .ok (.iadd, 1) := by decide +kernel
theorem dX11_parts_196 : decode cX11_parts 196 = .ok (.iaload, 1) := by decide +kernel
theorem dX11_parts_197 : decode cX11_parts 197 = .ok (.iadd, 1) := by decide +kernel
theorem dX11_parts_198 : decode cX11_parts 198 = .ok (.iastore, 1) := by decide +kernel
theorem dX11_parts_199 : decode cX11_parts 199 = .ok (.iinc 5 1, 3) := by decide +kernel
theorem dX11_parts_202 : decode cX11_parts 202 = .ok (.goto (-31), 3) := by decide +kernel
theorem dX11_parts_205 : decode cX11_parts 205 = .ok (.return_, 1) := by decide +kernel
set_option maxHeartbeats 2000000 in
set_option maxRecDepth 20000 in
theorem ct_parts {l : Launch} {E : Ev} {P : Value → AH → Prop} {o : Nat} {ad : Nat → Nat} {F : Nat → Int32} {A : Nat → Nat → Int32} {h : AH} (I : mI o ad) {a : Nat} (ha : a + 9 < 600) {x : Int32} (hz : F 13 = 0 → ∀ k, A 11 k = 0) (z : ∀ k, k < 6 → A 21 (a + 4 + k) = 0) (hp : P .null (mh E o ad (rpF F A x) (rpA F A a x) h)) : Mt l E yX11_parts cX11_parts 7 none 1 21 0 0 [.ref o, .int (nI a), .int x] (mh E o ad F A h) P := by
  refine Mt.of (by decide) (Nat.le_of_ble_eq_true rfl) ?_
  intro K hK hR C
  have tail : ∀ (G9 : Nat → Int32) (B : Nat → Nat → Int32) (lf : Int32), (G9 13 = 0 → ∀ k, B 11 k = 0) → (∀ k, 1 ≤ k → k < 6 → B 21 (a + 4 + k) = 0) → P .null (mh E o ad G9 (rtail B a lf) h) → G K E 7 (QM K E none 0 0 P) 0 0 63 [(0, .ref o), (1, .int (nI a)), (2, .int x), (3, .int lf)] [] (mh E o ad G9 B h) := by
    intro G9 B lf hz z hp
    refine g_iload_n (n := 64) C dX11_parts_63 rfl rfl ?_
    refine g_istore (n := 66) C dX11_parts_64 rfl (by decide) ?_
    refine g_iconst (n := 67) (v := 1) C dX11_parts_66 rfl (by decide) ?_
    refine g_istore (n := 69) C dX11_parts_67 rfl (by decide) ?_
    refine g_iload (n := 71) C dX11_parts_69 rfl rfl ?_
    refine g_bipush (n := 73) (v := 6) C dX11_parts_71 rfl (by decide) ?_
    refine g_icmp_ge (n := 76) (t := 154) C dX11_parts_73 rfl (by decide) (fun zc73 => ?_) (fun zc73 => ?_)
    · exact absurd zc73 (by decide)
    refine g_aload_n (n := 77) C dX11_parts_76 rfl rfl ?_
    refine m_get (n := 80) 13 C dX11_parts_77 rfl (by decide) rfl w_1113 rfl ?_
    refine g_if_eq (n := 83) (t := 154) C dX11_parts_80 rfl (by decide) (fun zc80 => ?_) (fun zc80 => ?_)
    ·
      have hB : ∀ k, B 11 k = 0 := hz zc80
      refine g_aload_n (n := 155) C dX11_parts_154 rfl rfl ?_
      refine m_get (n := 158) 21 C dX11_parts_155 rfl (by decide) rfl w_1121 rfl ?_
      refine g_iload_n (n := 159) C dX11_parts_158 rfl rfl ?_
      refine g_bipush (n := 161) (v := 8) C dX11_parts_159 rfl (by decide) ?_
      refine g_iadd (n := 162) C dX11_parts_161 rfl ?_
      refine g_dup2 (n := 163) C dX11_parts_162 rfl rfl rfl ?_
      refine m_iald (n := 164) (v := 0) 21 (a + 8) C dX11_parts_163 rfl I (by decide) rfl (ixq rfl 8) (by omega) (by decide) (z 4 (by omega) (by omega)) ?_
      refine g_iload (n := 166) C dX11_parts_164 rfl rfl ?_
      refine g_iadd (n := 167) C dX11_parts_166 rfl ?_
      refine m_iast (n := 168) 21 (a + 8) C dX11_parts_167 rfl I (by decide) (fun _ => rfl) (ixq rfl 8) (by omega) (by decide) ?_
      rw [rst0_0 hB z]
      refine (show G K E 7 (QM K E none 0 0 P) _ _ 168 _ _ (mh E o ad G9 (rst0 B a lf) h) from ?_)
      refine g_iconst (n := 169) (v := 1) C dX11_parts_168 rfl (by decide) ?_
      refine g_istore (n := 171) C dX11_parts_169 rfl (by decide) ?_
      refine g_iload (n := 173) C dX11_parts_171 rfl rfl ?_
      refine g_bipush (n := 175) (v := 6) C dX11_parts_173 rfl (by decide) ?_
      refine g_icmp_ge (n := 178) (t := 205) C dX11_parts_175 rfl (by decide) (fun zc175 => ?_) (fun zc175 => ?_)
      · exact absurd zc175 (by decide)
      refine g_aload_n (n := 179) C dX11_parts_178 rfl rfl ?_
      refine m_get (n := 182) 25 C dX11_parts_179 rfl (by decide) rfl w_1125 rfl ?_
      refine g_iload (n := 184) C dX11_parts_182 rfl rfl ?_
      refine g_dup2 (n := 185) C dX11_parts_184 rfl rfl rfl ?_
      refine m_iald (n := 186) (v := B 25 1) 25 (1) C dX11_parts_185 rfl I (by decide) rfl rfl (by decide) (by decide) (rh0_25 B a lf 1) ?_
      refine g_aload_n (n := 187) C dX11_parts_186 rfl rfl ?_
      refine m_get (n := 190) 21 C dX11_parts_187 rfl (by decide) rfl w_1121 rfl ?_
      refine g_iload_n (n := 191) C dX11_parts_190 rfl rfl ?_
      refine g_iconst (n := 192) (v := 4) C dX11_parts_191 rfl (by decide) ?_
      refine g_iadd (n := 193) C dX11_parts_192 rfl ?_
      refine g_iload (n := 195) C dX11_parts_193 rfl rfl ?_
      refine g_iadd (n := 196) C dX11_parts_195 rfl ?_
      refine m_iald (n := 197) (v := rsh B lf 1) 21 (a + 4 + 1) C dX11_parts_196 rfl I (by decide) rfl (ixp rfl 4 1) (by omega) (by decide) (rst0_rd1 B a lf) ?_
      refine g_iadd (n := 198) C dX11_parts_197 rfl ?_
      refine m_iast (n := 199) 25 (1) C dX11_parts_198 rfl I (by decide) (fun _ => rfl) rfl (by decide) (by decide) ?_
      refine g_iinc (n := 202) (v := 2) C dX11_parts_199 rfl rfl (by decide) (by decide) ?_
      refine g_goto (t := 171) C dX11_parts_202 (by decide) ?_
      refine (show G K E 7 (QM K E none 0 0 P) _ _ 171 _ _ (mh E o ad G9 (rh1 B a lf) h) from ?_)
      refine g_iload (n := 173) C dX11_parts_171 rfl rfl ?_
      refine g_bipush (n := 175) (v := 6) C dX11_parts_173 rfl (by decide) ?_
      refine g_icmp_ge (n := 178) (t := 205) C dX11_parts_175 rfl (by decide) (fun zc175 => ?_) (fun zc175 => ?_)
      · exact absurd zc175 (by decide)
      refine g_aload_n (n := 179) C dX11_parts_178 rfl rfl ?_
      refine m_get (n := 182) 25 C dX11_parts_179 rfl (by decide) rfl w_1125 rfl ?_
      refine g_iload (n := 184) C dX11_parts_182 rfl rfl ?_
      refine g_dup2 (n := 185) C dX11_parts_184 rfl rfl rfl ?_
      refine m_iald (n := 186) (v := B 25 2) 25 (2) C dX11_parts_185 rfl I (by decide) rfl rfl (by decide) (by decide) (rh1_25 B a lf (by decide)) ?_
      refine g_aload_n (n := 187) C dX11_parts_186 rfl rfl ?_
      refine m_get (n := 190) 21 C dX11_parts_187 rfl (by decide) rfl w_1121 rfl ?_
      refine g_iload_n (n := 191) C dX11_parts_190 rfl rfl ?_
      refine g_iconst (n := 192) (v := 4) C dX11_parts_191 rfl (by decide) ?_
      refine g_iadd (n := 193) C dX11_parts_192 rfl ?_
      refine g_iload (n := 195) C dX11_parts_193 rfl rfl ?_
      refine g_iadd (n := 196) C dX11_parts_195 rfl ?_
      refine m_iald (n := 197) (v := rsh B lf 2) 21 (a + 4 + 2) C dX11_parts_196 rfl I (by decide) rfl (ixp rfl 4 2) (by omega) (by decide) (by rw [rh1_21 B a lf]; exact rst0_rd2 B a lf) ?_
      refine g_iadd (n := 198) C dX11_parts_197 rfl ?_
      refine m_iast (n := 199) 25 (2) C dX11_parts_198 rfl I (by decide) (fun _ => rfl) rfl (by decide) (by decide) ?_
      refine g_iinc (n := 202) (v := 3) C dX11_parts_199 rfl rfl (by decide) (by decide) ?_
      refine g_goto (t := 171) C dX11_parts_202 (by decide) ?_
      refine (show G K E 7 (QM K E none 0 0 P) _ _ 171 _ _ (mh E o ad G9 (rh2 B a lf) h) from ?_)
      refine g_iload (n := 173) C dX11_parts_171 rfl rfl ?_
      refine g_bipush (n := 175) (v := 6) C dX11_parts_173 rfl (by decide) ?_
      refine g_icmp_ge (n := 178) (t := 205) C dX11_parts_175 rfl (by decide) (fun zc175 => ?_) (fun zc175 => ?_)
      · exact absurd zc175 (by decide)
      refine g_aload_n (n := 179) C dX11_parts_178 rfl rfl ?_
      refine m_get (n := 182) 25 C dX11_parts_179 rfl (by decide) rfl w_1125 rfl ?_
      refine g_iload (n := 184) C dX11_parts_182 rfl rfl ?_
      refine g_dup2 (n := 185) C dX11_parts_184 rfl rfl rfl ?_
      refine m_iald (n := 186) (v := B 25 3) 25 (3) C dX11_parts_185 rfl I (by decide) rfl rfl (by decide) (by decide) (rh2_25 B a lf (by decide)) ?_
      refine g_aload_n (n := 187) C dX11_parts_186 rfl rfl ?_
      refine m_get (n := 190) 21 C dX11_parts_187 rfl (by decide) rfl w_1121 rfl ?_
      refine g_iload_n (n := 191) C dX11_parts_190 rfl rfl ?_
      refine g_iconst (n := 192) (v := 4) C dX11_parts_191 rfl (by decide) ?_
      refine g_iadd (n := 193) C dX11_parts_192 rfl ?_
      refine g_iload (n := 195) C dX11_parts_193 rfl rfl ?_
      refine g_iadd (n := 196) C dX11_parts_195 rfl ?_
      refine m_iald (n := 197) (v := rle B lf) 21 (a + 4 + 3) C dX11_parts_196 rfl I (by decide) rfl (ixp rfl 4 3) (by omega) (by decide) (by rw [rh2_21 B a lf]; exact rst0_rd3 B a lf) ?_
      refine g_iadd (n := 198) C dX11_parts_197 rfl ?_
      refine m_iast (n := 199) 25 (3) C dX11_parts_198 rfl I (by decide) (fun _ => rfl) rfl (by decide) (by decide) ?_
      refine g_iinc (n := 202) (v := 4) C dX11_parts_199 rfl rfl (by decide) (by decide) ?_
      refine g_goto (t := 171) C dX11_parts_202 (by decide) ?_
      refine (show G K E 7 (QM K E none 0 0 P) _ _ 171 _ _ (mh E o ad G9 (rh3 B a lf) h) from ?_)
      refine g_iload (n := 173) C dX11_parts_171 rfl rfl ?_
      refine g_bipush (n := 175) (v := 6) C dX11_parts_173 rfl (by decide) ?_
      refine g_icmp_ge (n := 178) (t := 205) C dX11_parts_175 rfl (by decide) (fun zc175 => ?_) (fun zc175 => ?_)
      · exact absurd zc175 (by decide)
      refine g_aload_n (n := 179) C dX11_parts_178 rfl rfl ?_
      refine m_get (n := 182) 25 C dX11_parts_179 rfl (by decide) rfl w_1125 rfl ?_
      refine g_iload (n := 184) C dX11_parts_182 rfl rfl ?_
      refine g_dup2 (n := 185) C dX11_parts_184 rfl rfl rfl ?_
      refine m_iald (n := 186) (v := B 25 4) 25 (4) C dX11_parts_185 rfl I (by decide) rfl rfl (by decide) (by decide) (rh3_25 B a lf (by decide)) ?_
      refine g_aload_n (n := 187) C dX11_parts_186 rfl rfl ?_
      refine m_get (n := 190) 21 C dX11_parts_187 rfl (by decide) rfl w_1121 rfl ?_
      refine g_iload_n (n := 191) C dX11_parts_190 rfl rfl ?_
      refine g_iconst (n := 192) (v := 4) C dX11_parts_191 rfl (by decide) ?_
      refine g_iadd (n := 193) C dX11_parts_192 rfl ?_
      refine g_iload (n := 195) C dX11_parts_193 rfl rfl ?_
      refine g_iadd (n := 196) C dX11_parts_195 rfl ?_
      refine m_iald (n := 197) (v := rdi B lf) 21 (a + 4 + 4) C dX11_parts_196 rfl I (by decide) rfl (ixp rfl 4 4) (by omega) (by decide) (by rw [rh3_21 B a lf]; exact rst0_rd4 B a lf) ?_
      refine g_iadd (n := 198) C dX11_parts_197 rfl ?_
      refine m_iast (n := 199) 25 (4) C dX11_parts_198 rfl I (by decide) (fun _ => rfl) rfl (by decide) (by decide) ?_
      refine g_iinc (n := 202) (v := 5) C dX11_parts_199 rfl rfl (by decide) (by decide) ?_
      refine g_goto (t := 171) C dX11_parts_202 (by decide) ?_
      refine (show G K E 7 (QM K E none 0 0 P) _ _ 171 _ _ (mh E o ad G9 (rh4 B a lf) h) from ?_)
      refine g_iload (n := 173) C dX11_parts_171 rfl rfl ?_
      refine g_bipush (n := 175) (v := 6) C dX11_parts_173 rfl (by decide) ?_
      refine g_icmp_ge (n := 178) (t := 205) C dX11_parts_175 rfl (by decide) (fun zc175 => ?_) (fun zc175 => ?_)
      · exact absurd zc175 (by decide)
      refine g_aload_n (n := 179) C dX11_parts_178 rfl rfl ?_
      refine m_get (n := 182) 25 C dX11_parts_179 rfl (by decide) rfl w_1125 rfl ?_
      refine g_iload (n := 184) C dX11_parts_182 rfl rfl ?_
      refine g_dup2 (n := 185) C dX11_parts_184 rfl rfl rfl ?_
      refine m_iald (n := 186) (v := B 25 5) 25 (5) C dX11_parts_185 rfl I (by decide) rfl rfl (by decide) (by decide) (rh4_25 B a lf (by decide)) ?_
      refine g_aload_n (n := 187) C dX11_parts_186 rfl rfl ?_
      refine m_get (n := 190) 21 C dX11_parts_187 rfl (by decide) rfl w_1121 rfl ?_
      refine g_iload_n (n := 191) C dX11_parts_190 rfl rfl ?_
      refine g_iconst (n := 192) (v := 4) C dX11_parts_191 rfl (by decide) ?_
      refine g_iadd (n := 193) C dX11_parts_192 rfl ?_
      refine g_iload (n := 195) C dX11_parts_193 rfl rfl ?_
      refine g_iadd (n := 196) C dX11_parts_195 rfl ?_
      refine m_iald (n := 197) (v := rsh B lf 5) 21 (a + 4 + 5) C dX11_parts_196 rfl I (by decide) rfl (ixp rfl 4 5) (by omega) (by decide) (by rw [rh4_21 B a lf]; exact rst0_rd5 B a lf) ?_
      refine g_iadd (n := 198) C dX11_parts_197 rfl ?_
      refine m_iast (n := 199) 25 (5) C dX11_parts_198 rfl I (by decide) (fun _ => rfl) rfl (by decide) (by decide) ?_
      refine g_iinc (n := 202) (v := 6) C dX11_parts_199 rfl rfl (by decide) (by decide) ?_
      refine g_goto (t := 171) C dX11_parts_202 (by decide) ?_
      refine (show G K E 7 (QM K E none 0 0 P) _ _ 171 _ _ (mh E o ad G9 (rtail B a lf) h) from ?_)
      refine g_iload (n := 173) C dX11_parts_171 rfl rfl ?_
      refine g_bipush (n := 175) (v := 6) C dX11_parts_173 rfl (by decide) ?_
      refine g_icmp_ge (n := 178) (t := 205) C dX11_parts_175 rfl (by decide) (fun zc175 => ?_) (fun zc175 => ?_)
      rotate_left
      · exact absurd zc175 (by decide)
      refine g_vret C dX11_parts_205 (by decide) (by decide) ?_
      exact hp
    ·
      refine g_iload_n (n := 84) C dX11_parts_83 rfl rfl ?_
      refine g_aload_n (n := 85) C dX11_parts_84 rfl rfl ?_
      refine m_get (n := 88) 11 C dX11_parts_85 rfl (by decide) rfl w_1111 rfl ?_
      refine g_iload (n := 90) C dX11_parts_88 rfl rfl ?_
      refine m_iald (n := 91) (v := B 11 1) 11 (1) C dX11_parts_90 rfl I (by decide) rfl rfl (by decide) (by decide) (rfl) ?_
      refine g_imul (n := 92) C dX11_parts_91 rfl ?_
      refine g_bipush (n := 94) (v := 100) C dX11_parts_92 rfl (by decide) ?_
      refine g_idiv (n := 95) C dX11_parts_94 rfl (by decide) ?_
      refine g_istore (n := 97) C dX11_parts_95 rfl (by decide) ?_
      refine g_iload (n := 99) C dX11_parts_97 rfl rfl ?_
      refine g_iconst (n := 100) (v := 3) C dX11_parts_99 rfl (by decide) ?_
      refine g_icmp_ne (n := 103) (t := 128) C dX11_parts_100 rfl (by decide) (fun zc100 => ?_) (fun zc100 => ?_)
      rotate_left
      · exact absurd zc100 (by decide)
      refine g_aload_n (n := 129) C dX11_parts_128 rfl rfl ?_
      refine m_get (n := 132) 21 C dX11_parts_129 rfl (by decide) rfl w_1121 rfl ?_
      refine g_iload_n (n := 133) C dX11_parts_132 rfl rfl ?_
      refine g_iconst (n := 134) (v := 4) C dX11_parts_133 rfl (by decide) ?_
      refine g_iadd (n := 135) C dX11_parts_134 rfl ?_
      refine g_iload (n := 137) C dX11_parts_135 rfl rfl ?_
      refine g_iadd (n := 138) C dX11_parts_137 rfl ?_
      refine g_iload (n := 140) C dX11_parts_138 rfl rfl ?_
      refine m_iast (n := 141) 21 (a + 4 + 1) C dX11_parts_140 rfl I (by decide) (fun _ => rfl) (ixp rfl 4 1) (by omega) (by decide) ?_
      refine g_iload (n := 143) C dX11_parts_141 rfl rfl ?_
      refine g_iload (n := 145) C dX11_parts_143 rfl rfl ?_
      refine g_isub (n := 146) C dX11_parts_145 rfl ?_
      refine g_istore (n := 148) C dX11_parts_146 rfl (by decide) ?_
      refine g_iinc (n := 151) (v := 2) C dX11_parts_148 rfl rfl (by decide) (by decide) ?_
      refine g_goto (t := 69) C dX11_parts_151 (by decide) ?_
      refine (show G K E 7 (QM K E none 0 0 P) _ _ 69 _ _ (mh E o ad G9 (rs1 B a lf) h) from ?_)
      refine g_iload (n := 71) C dX11_parts_69 rfl rfl ?_
      refine g_bipush (n := 73) (v := 6) C dX11_parts_71 rfl (by decide) ?_
      refine g_icmp_ge (n := 76) (t := 154) C dX11_parts_73 rfl (by decide) (fun zc73 => ?_) (fun zc73 => ?_)
      · exact absurd zc73 (by decide)
      refine g_aload_n (n := 77) C dX11_parts_76 rfl rfl ?_
      refine m_get (n := 80) 13 C dX11_parts_77 rfl (by decide) rfl w_1113 rfl ?_
      refine g_if_eq (n := 83) (t := 154) C dX11_parts_80 rfl (by decide) (fun zq80 => absurd zq80 zc80) (fun _ => ?_)
      refine g_iload_n (n := 84) C dX11_parts_83 rfl rfl ?_
      refine g_aload_n (n := 85) C dX11_parts_84 rfl rfl ?_
      refine m_get (n := 88) 11 C dX11_parts_85 rfl (by decide) rfl w_1111 rfl ?_
      refine g_iload (n := 90) C dX11_parts_88 rfl rfl ?_
      refine m_iald (n := 91) (v := B 11 2) 11 (2) C dX11_parts_90 rfl I (by decide) rfl rfl (by decide) (by decide) (by rw [rs1_r B a lf (by decide)]) ?_
      refine g_imul (n := 92) C dX11_parts_91 rfl ?_
      refine g_bipush (n := 94) (v := 100) C dX11_parts_92 rfl (by decide) ?_
      refine g_idiv (n := 95) C dX11_parts_94 rfl (by decide) ?_
      refine g_istore (n := 97) C dX11_parts_95 rfl (by decide) ?_
      refine g_iload (n := 99) C dX11_parts_97 rfl rfl ?_
      refine g_iconst (n := 100) (v := 3) C dX11_parts_99 rfl (by decide) ?_
      refine g_icmp_ne (n := 103) (t := 128) C dX11_parts_100 rfl (by decide) (fun zc100 => ?_) (fun zc100 => ?_)
      rotate_left
      · exact absurd zc100 (by decide)
      refine g_aload_n (n := 129) C dX11_parts_128 rfl rfl ?_
      refine m_get (n := 132) 21 C dX11_parts_129 rfl (by decide) rfl w_1121 rfl ?_
      refine g_iload_n (n := 133) C dX11_parts_132 rfl rfl ?_
      refine g_iconst (n := 134) (v := 4) C dX11_parts_133 rfl (by decide) ?_
      refine g_iadd (n := 135) C dX11_parts_134 rfl ?_
      refine g_iload (n := 137) C dX11_parts_135 rfl rfl ?_
      refine g_iadd (n := 138) C dX11_parts_137 rfl ?_
      refine g_iload (n := 140) C dX11_parts_138 rfl rfl ?_
      refine m_iast (n := 141) 21 (a + 4 + 2) C dX11_parts_140 rfl I (by decide) (fun _ => rfl) (ixp rfl 4 2) (by omega) (by decide) ?_
      refine g_iload (n := 143) C dX11_parts_141 rfl rfl ?_
      refine g_iload (n := 145) C dX11_parts_143 rfl rfl ?_
      refine g_isub (n := 146) C dX11_parts_145 rfl ?_
      refine g_istore (n := 148) C dX11_parts_146 rfl (by decide) ?_
      refine g_iinc (n := 151) (v := 3) C dX11_parts_148 rfl rfl (by decide) (by decide) ?_
      refine g_goto (t := 69) C dX11_parts_151 (by decide) ?_
      refine (show G K E 7 (QM K E none 0 0 P) _ _ 69 _ _ (mh E o ad G9 (rs2 B a lf) h) from ?_)
      refine g_iload (n := 71) C dX11_parts_69 rfl rfl ?_
      refine g_bipush (n := 73) (v := 6) C dX11_parts_71 rfl (by decide) ?_
      refine g_icmp_ge (n := 76) (t := 154) C dX11_parts_73 rfl (by decide) (fun zc73 => ?_) (fun zc73 => ?_)
      · exact absurd zc73 (by decide)
      refine g_aload_n (n := 77) C dX11_parts_76 rfl rfl ?_
      refine m_get (n := 80) 13 C dX11_parts_77 rfl (by decide) rfl w_1113 rfl ?_
      refine g_if_eq (n := 83) (t := 154) C dX11_parts_80 rfl (by decide) (fun zq80 => absurd zq80 zc80) (fun _ => ?_)
      refine g_iload_n (n := 84) C dX11_parts_83 rfl rfl ?_
      refine g_aload_n (n := 85) C dX11_parts_84 rfl rfl ?_
      refine m_get (n := 88) 11 C dX11_parts_85 rfl (by decide) rfl w_1111 rfl ?_
      refine g_iload (n := 90) C dX11_parts_88 rfl rfl ?_
      refine m_iald (n := 91) (v := B 11 3) 11 (3) C dX11_parts_90 rfl I (by decide) rfl rfl (by decide) (by decide) (by rw [rs2_r B a lf (by decide)]) ?_
      refine g_imul (n := 92) C dX11_parts_91 rfl ?_
      refine g_bipush (n := 94) (v := 100) C dX11_parts_92 rfl (by decide) ?_
      refine g_idiv (n := 95) C dX11_parts_94 rfl (by decide) ?_
      refine g_istore (n := 97) C dX11_parts_95 rfl (by decide) ?_
      refine g_iload (n := 99) C dX11_parts_97 rfl rfl ?_
      refine g_iconst (n := 100) (v := 3) C dX11_parts_99 rfl (by decide) ?_
      refine g_icmp_ne (n := 103) (t := 128) C dX11_parts_100 rfl (by decide) (fun zc100 => ?_) (fun zc100 => ?_)
      · exact absurd zc100 (by decide)
      refine g_iconst (n := 104) (v := 0) C dX11_parts_103 rfl (by decide) ?_
      refine g_iload (n := 106) C dX11_parts_104 rfl rfl ?_
      refine g_aload_n (n := 107) C dX11_parts_106 rfl rfl ?_
      refine m_get (n := 110) 11 C dX11_parts_107 rfl (by decide) rfl w_1111 rfl ?_
      refine g_bipush (n := 112) (v := 6) C dX11_parts_110 rfl (by decide) ?_
      refine m_iald (n := 113) (v := B 11 6) 11 (6) C dX11_parts_112 rfl I (by decide) rfl rfl (by decide) (by decide) (by rw [rs2_r B a lf (by decide)]) ?_
      refine g_aload_n (n := 114) C dX11_parts_113 rfl rfl ?_
      refine m_get (n := 117) 25 C dX11_parts_114 rfl (by decide) rfl w_1125 rfl ?_
      refine g_iconst (n := 118) (v := 3) C dX11_parts_117 rfl (by decide) ?_
      refine m_iald (n := 119) (v := B 25 3) 25 (3) C dX11_parts_118 rfl I (by decide) rfl rfl (by decide) (by decide) (by rw [rs2_r B a lf (by decide)]) ?_
      refine g_isub (n := 120) C dX11_parts_119 rfl ?_
      refine g_min (n := 123) C dX11_parts_120 rfl mwM_min w_1308 (roomM hR rfl) ?_
      refine g_max (n := 126) C dX11_parts_123 rfl mwM_max w_1291 (roomM hR rfl) ?_
      refine g_istore (n := 128) C dX11_parts_126 rfl (by decide) ?_
      refine g_aload_n (n := 129) C dX11_parts_128 rfl rfl ?_
      refine m_get (n := 132) 21 C dX11_parts_129 rfl (by decide) rfl w_1121 rfl ?_
      refine g_iload_n (n := 133) C dX11_parts_132 rfl rfl ?_
      refine g_iconst (n := 134) (v := 4) C dX11_parts_133 rfl (by decide) ?_
      refine g_iadd (n := 135) C dX11_parts_134 rfl ?_
      refine g_iload (n := 137) C dX11_parts_135 rfl rfl ?_
      refine g_iadd (n := 138) C dX11_parts_137 rfl ?_
      refine g_iload (n := 140) C dX11_parts_138 rfl rfl ?_
      refine m_iast (n := 141) 21 (a + 4 + 3) C dX11_parts_140 rfl I (by decide) (fun _ => rfl) (ixp rfl 4 3) (by omega) (by decide) ?_
      refine g_iload (n := 143) C dX11_parts_141 rfl rfl ?_
      refine g_iload (n := 145) C dX11_parts_143 rfl rfl ?_
      refine g_isub (n := 146) C dX11_parts_145 rfl ?_
      refine g_istore (n := 148) C dX11_parts_146 rfl (by decide) ?_
      refine g_iinc (n := 151) (v := 4) C dX11_parts_148 rfl rfl (by decide) (by decide) ?_
      refine g_goto (t := 69) C dX11_parts_151 (by decide) ?_
      refine (show G K E 7 (QM K E none 0 0 P) _ _ 69 _ _ (mh E o ad G9 (rs3 B a lf) h) from ?_)
      refine g_iload (n := 71) C dX11_parts_69 rfl rfl ?_
      refine g_bipush (n := 73) (v := 6) C dX11_parts_71 rfl (by decide) ?_
      refine g_icmp_ge (n := 76) (t := 154) C dX11_parts_73 rfl (by decide) (fun zc73 => ?_) (fun zc73 => ?_)
      · exact absurd zc73 (by decide)
      refine g_aload_n (n := 77) C dX11_parts_76 rfl rfl ?_
      refine m_get (n := 80) 13 C dX11_parts_77 rfl (by decide) rfl w_1113 rfl ?_
      refine g_if_eq (n := 83) (t := 154) C dX11_parts_80 rfl (by decide) (fun zq80 => absurd zq80 zc80) (fun _ => ?_)
      refine g_iload_n (n := 84) C dX11_parts_83 rfl rfl ?_
      refine g_aload_n (n := 85) C dX11_parts_84 rfl rfl ?_
      refine m_get (n := 88) 11 C dX11_parts_85 rfl (by decide) rfl w_1111 rfl ?_
      refine g_iload (n := 90) C dX11_parts_88 rfl rfl ?_
      refine m_iald (n := 91) (v := B 11 4) 11 (4) C dX11_parts_90 rfl I (by decide) rfl rfl (by decide) (by decide) (by rw [rs3_r B a lf (by decide)]) ?_
      refine g_imul (n := 92) C dX11_parts_91 rfl ?_
      refine g_bipush (n := 94) (v := 100) C dX11_parts_92 rfl (by decide) ?_
      refine g_idiv (n := 95) C dX11_parts_94 rfl (by decide) ?_
      refine g_istore (n := 97) C dX11_parts_95 rfl (by decide) ?_
      refine g_iload (n := 99) C dX11_parts_97 rfl rfl ?_
      refine g_iconst (n := 100) (v := 3) C dX11_parts_99 rfl (by decide) ?_
      refine g_icmp_ne (n := 103) (t := 128) C dX11_parts_100 rfl (by decide) (fun zc100 => ?_) (fun zc100 => ?_)
      rotate_left
      · exact absurd zc100 (by decide)
      refine g_aload_n (n := 129) C dX11_parts_128 rfl rfl ?_
      refine m_get (n := 132) 21 C dX11_parts_129 rfl (by decide) rfl w_1121 rfl ?_
      refine g_iload_n (n := 133) C dX11_parts_132 rfl rfl ?_
      refine g_iconst (n := 134) (v := 4) C dX11_parts_133 rfl (by decide) ?_
      refine g_iadd (n := 135) C dX11_parts_134 rfl ?_
      refine g_iload (n := 137) C dX11_parts_135 rfl rfl ?_
      refine g_iadd (n := 138) C dX11_parts_137 rfl ?_
      refine g_iload (n := 140) C dX11_parts_138 rfl rfl ?_
      refine m_iast (n := 141) 21 (a + 4 + 4) C dX11_parts_140 rfl I (by decide) (fun _ => rfl) (ixp rfl 4 4) (by omega) (by decide) ?_
      refine g_iload (n := 143) C dX11_parts_141 rfl rfl ?_
      refine g_iload (n := 145) C dX11_parts_143 rfl rfl ?_
      refine g_isub (n := 146) C dX11_parts_145 rfl ?_
      refine g_istore (n := 148) C dX11_parts_146 rfl (by decide) ?_
      refine g_iinc (n := 151) (v := 5) C dX11_parts_148 rfl rfl (by decide) (by decide) ?_
      refine g_goto (t := 69) C dX11_parts_151 (by decide) ?_
      refine (show G K E 7 (QM K E none 0 0 P) _ _ 69 _ _ (mh E o ad G9 (rs4 B a lf) h) from ?_)
      refine g_iload (n := 71) C dX11_parts_69 rfl rfl ?_
      refine g_bipush (n := 73) (v := 6) C dX11_parts_71 rfl (by decide) ?_
      refine g_icmp_ge (n := 76) (t := 154) C dX11_parts_73 rfl (by decide) (fun zc73 => ?_) (fun zc73 => ?_)
      · exact absurd zc73 (by decide)
      refine g_aload_n (n := 77) C dX11_parts_76 rfl rfl ?_
      refine m_get (n := 80) 13 C dX11_parts_77 rfl (by decide) rfl w_1113 rfl ?_
      refine g_if_eq (n := 83) (t := 154) C dX11_parts_80 rfl (by decide) (fun zq80 => absurd zq80 zc80) (fun _ => ?_)
      refine g_iload_n (n := 84) C dX11_parts_83 rfl rfl ?_
      refine g_aload_n (n := 85) C dX11_parts_84 rfl rfl ?_
      refine m_get (n := 88) 11 C dX11_parts_85 rfl (by decide) rfl w_1111 rfl ?_
      refine g_iload (n := 90) C dX11_parts_88 rfl rfl ?_
      refine m_iald (n := 91) (v := B 11 5) 11 (5) C dX11_parts_90 rfl I (by decide) rfl rfl (by decide) (by decide) (by rw [rs4_r B a lf (by decide)]) ?_
      refine g_imul (n := 92) C dX11_parts_91 rfl ?_
      refine g_bipush (n := 94) (v := 100) C dX11_parts_92 rfl (by decide) ?_
      refine g_idiv (n := 95) C dX11_parts_94 rfl (by decide) ?_
      refine g_istore (n := 97) C dX11_parts_95 rfl (by decide) ?_
      refine g_iload (n := 99) C dX11_parts_97 rfl rfl ?_
      refine g_iconst (n := 100) (v := 3) C dX11_parts_99 rfl (by decide) ?_
      refine g_icmp_ne (n := 103) (t := 128) C dX11_parts_100 rfl (by decide) (fun zc100 => ?_) (fun zc100 => ?_)
      rotate_left
      · exact absurd zc100 (by decide)
      refine g_aload_n (n := 129) C dX11_parts_128 rfl rfl ?_
      refine m_get (n := 132) 21 C dX11_parts_129 rfl (by decide) rfl w_1121 rfl ?_
      refine g_iload_n (n := 133) C dX11_parts_132 rfl rfl ?_
      refine g_iconst (n := 134) (v := 4) C dX11_parts_133 rfl (by decide) ?_
      refine g_iadd (n := 135) C dX11_parts_134 rfl ?_
      refine g_iload (n := 137) C dX11_parts_135 rfl rfl ?_
      refine g_iadd (n := 138) C dX11_parts_137 rfl ?_
      refine g_iload (n := 140) C dX11_parts_138 rfl rfl ?_
      refine m_iast (n := 141) 21 (a + 4 + 5) C dX11_parts_140 rfl I (by decide) (fun _ => rfl) (ixp rfl 4 5) (by omega) (by decide) ?_
      refine g_iload (n := 143) C dX11_parts_141 rfl rfl ?_
      refine g_iload (n := 145) C dX11_parts_143 rfl rfl ?_
      refine g_isub (n := 146) C dX11_parts_145 rfl ?_
      refine g_istore (n := 148) C dX11_parts_146 rfl (by decide) ?_
      refine g_iinc (n := 151) (v := 6) C dX11_parts_148 rfl rfl (by decide) (by decide) ?_
      refine g_goto (t := 69) C dX11_parts_151 (by decide) ?_
      refine (show G K E 7 (QM K E none 0 0 P) _ _ 69 _ _ (mh E o ad G9 (rs5 B a lf) h) from ?_)
      refine g_iload (n := 71) C dX11_parts_69 rfl rfl ?_
      refine g_bipush (n := 73) (v := 6) C dX11_parts_71 rfl (by decide) ?_
      refine g_icmp_ge (n := 76) (t := 154) C dX11_parts_73 rfl (by decide) (fun zc73 => ?_) (fun zc73 => ?_)
      rotate_left
      · exact absurd zc73 (by decide)
      refine g_aload_n (n := 155) C dX11_parts_154 rfl rfl ?_
      refine m_get (n := 158) 21 C dX11_parts_155 rfl (by decide) rfl w_1121 rfl ?_
      refine g_iload_n (n := 159) C dX11_parts_158 rfl rfl ?_
      refine g_bipush (n := 161) (v := 8) C dX11_parts_159 rfl (by decide) ?_
      refine g_iadd (n := 162) C dX11_parts_161 rfl ?_
      refine g_dup2 (n := 163) C dX11_parts_162 rfl rfl rfl ?_
      refine m_iald (n := 164) (v := rsh B lf 4) 21 (a + 8) C dX11_parts_163 rfl I (by decide) rfl (ixq rfl 8) (by omega) (by decide) (by unfold rs5; rw [aset_rd _ _ (by omega)]; unfold rs4; rw [show a + 8 = a + 4 + 4 from rfl, aset_same]) ?_
      refine g_iload (n := 166) C dX11_parts_164 rfl rfl ?_
      refine g_iadd (n := 167) C dX11_parts_166 rfl ?_
      refine m_iast (n := 168) 21 (a + 8) C dX11_parts_167 rfl I (by decide) (fun _ => rfl) (ixq rfl 8) (by omega) (by decide) ?_
      refine (show G K E 7 (QM K E none 0 0 P) _ _ 168 _ _ (mh E o ad G9 (rst0 B a lf) h) from ?_)
      refine g_iconst (n := 169) (v := 1) C dX11_parts_168 rfl (by decide) ?_
      refine g_istore (n := 171) C dX11_parts_169 rfl (by decide) ?_
      refine g_iload (n := 173) C dX11_parts_171 rfl rfl ?_
      refine g_bipush (n := 175) (v := 6) C dX11_parts_173 rfl (by decide) ?_
      refine g_icmp_ge (n := 178) (t := 205) C dX11_parts_175 rfl (by decide) (fun zc175 => ?_) (fun zc175 => ?_)
      · exact absurd zc175 (by decide)
      refine g_aload_n (n := 179) C dX11_parts_178 rfl rfl ?_
      refine m_get (n := 182) 25 C dX11_parts_179 rfl (by decide) rfl w_1125 rfl ?_
      refine g_iload (n := 184) C dX11_parts_182 rfl rfl ?_
      refine g_dup2 (n := 185) C dX11_parts_184 rfl rfl rfl ?_
      refine m_iald (n := 186) (v := B 25 1) 25 (1) C dX11_parts_185 rfl I (by decide) rfl rfl (by decide) (by decide) (rh0_25 B a lf 1) ?_
      refine g_aload_n (n := 187) C dX11_parts_186 rfl rfl ?_
      refine m_get (n := 190) 21 C dX11_parts_187 rfl (by decide) rfl w_1121 rfl ?_
      refine g_iload_n (n := 191) C dX11_parts_190 rfl rfl ?_
      refine g_iconst (n := 192) (v := 4) C dX11_parts_191 rfl (by decide) ?_
      refine g_iadd (n := 193) C dX11_parts_192 rfl ?_
      refine g_iload (n := 195) C dX11_parts_193 rfl rfl ?_
      refine g_iadd (n := 196) C dX11_parts_195 rfl ?_
      refine m_iald (n := 197) (v := rsh B lf 1) 21 (a + 4 + 1) C dX11_parts_196 rfl I (by decide) rfl (ixp rfl 4 1) (by omega) (by decide) (rst0_rd1 B a lf) ?_
      refine g_iadd (n := 198) C dX11_parts_197 rfl ?_
      refine m_iast (n := 199) 25 (1) C dX11_parts_198 rfl I (by decide) (fun _ => rfl) rfl (by decide) (by decide) ?_
      refine g_iinc (n := 202) (v := 2) C dX11_parts_199 rfl rfl (by decide) (by decide) ?_
      refine g_goto (t := 171) C dX11_parts_202 (by decide) ?_
      refine (show G K E 7 (QM K E none 0 0 P) _ _ 171 _ _ (mh E o ad G9 (rh1 B a lf) h) from ?_)
      refine g_iload (n := 173) C dX11_parts_171 rfl rfl ?_
      refine g_bipush (n := 175) (v := 6) C dX11_parts_173 rfl (by decide) ?_
      refine g_icmp_ge (n := 178) (t := 205) C dX11_parts_175 rfl (by decide) (fun zc175 => ?_) (fun zc175 => ?_)
      · exact absurd zc175 (by decide)
      refine g_aload_n (n := 179) C dX11_parts_178 rfl rfl ?_
      refine m_get (n := 182) 25 C dX11_parts_179 rfl (by decide) rfl w_1125 rfl ?_
      refine g_iload (n := 184) C dX11_parts_182 rfl rfl ?_
      refine g_dup2 (n := 185) C dX11_parts_184 rfl rfl rfl ?_
      refine m_iald (n := 186) (v := B 25 2) 25 (2) C dX11_parts_185 rfl I (by decide) rfl rfl (by decide) (by decide) (rh1_25 B a lf (by decide)) ?_
      refine g_aload_n (n := 187) C dX11_parts_186 rfl rfl ?_
      refine m_get (n := 190) 21 C dX11_parts_187 rfl (by decide) rfl w_1121 rfl ?_
      refine g_iload_n (n := 191) C dX11_parts_190 rfl rfl ?_
      refine g_iconst (n := 192) (v := 4) C dX11_parts_191 rfl (by decide) ?_
      refine g_iadd (n := 193) C dX11_parts_192 rfl ?_
      refine g_iload (n := 195) C dX11_parts_193 rfl rfl ?_
      refine g_iadd (n := 196) C dX11_parts_195 rfl ?_
      refine m_iald (n := 197) (v := rsh B lf 2) 21 (a + 4 + 2) C dX11_parts_196 rfl I (by decide) rfl (ixp rfl 4 2) (by omega) (by decide) (by rw [rh1_21 B a lf]; exact rst0_rd2 B a lf) ?_
      refine g_iadd (n := 198) C dX11_parts_197 rfl ?_
      refine m_iast (n := 199) 25 (2) C dX11_parts_198 rfl I (by decide) (fun _ => rfl) rfl (by decide) (by decide) ?_
      refine g_iinc (n := 202) (v := 3) C dX11_parts_199 rfl rfl (by decide) (by decide) ?_
      refine g_goto (t := 171) C dX11_parts_202 (by decide) ?_
      refine (show G K E 7 (QM K E none 0 0 P) _ _ 171 _ _ (mh E o ad G9 (rh2 B a lf) h) from ?_)
      refine g_iload (n := 173) C dX11_parts_171 rfl rfl ?_
      refine g_bipush (n := 175) (v := 6) C dX11_parts_173 rfl (by decide) ?_
      refine g_icmp_ge (n := 178) (t := 205) C dX11_parts_175 rfl (by decide) (fun zc175 => ?_) (fun zc175 => ?_)
      · exact absurd zc175 (by decide)
      refine g_aload_n (n := 179) C dX11_parts_178 rfl rfl ?_
      refine m_get (n := 182) 25 C dX11_parts_179 rfl (by decide) rfl w_1125 rfl ?_
      refine g_iload (n := 184) C dX11_parts_182 rfl rfl ?_
      refine g_dup2 (n := 185) C dX11_parts_184 rfl rfl rfl ?_
      refine m_iald (n := 186) (v := B 25 3) 25 (3) C dX11_parts_185 rfl I (by decide) rfl rfl (by decide) (by decide) (rh2_25 B a lf (by decide)) ?_
      refine g_aload_n (n := 187) C dX11_parts_186 rfl rfl ?_
      refine m_get (n := 190) 21 C dX11_parts_187 rfl (by decide) rfl w_1121 rfl ?_
      refine g_iload_n (n := 191) C dX11_parts_190 rfl rfl ?_
      refine g_iconst (n := 192) (v := 4) C dX11_parts_191 rfl (by decide) ?_
      refine g_iadd (n := 193) C dX11_parts_192 rfl ?_
      refine g_iload (n := 195) C dX11_parts_193 rfl rfl ?_
      refine g_iadd (n := 196) C dX11_parts_195 rfl ?_
      refine m_iald (n := 197) (v := rle B lf) 21 (a + 4 + 3) C dX11_parts_196 rfl I (by decide) rfl (ixp rfl 4 3) (by omega) (by decide) (by rw [rh2_21 B a lf]; exact rst0_rd3 B a lf) ?_
      refine g_iadd (n := 198) C dX11_parts_197 rfl ?_
      refine m_iast (n := 199) 25 (3) C dX11_parts_198 rfl I (by decide) (fun _ => rfl) rfl (by decide) (by decide) ?_
      refine g_iinc (n := 202) (v := 4) C dX11_parts_199 rfl rfl (by decide) (by decide) ?_
      refine g_goto (t := 171) C dX11_parts_202 (by decide) ?_
      refine (show G K E 7 (QM K E none 0 0 P) _ _ 171 _ _ (mh E o ad G9 (rh3 B a lf) h) from ?_)
      refine g_iload (n := 173) C dX11_parts_171 rfl rfl ?_
      refine g_bipush (n := 175) (v := 6) C dX11_parts_173 rfl (by decide) ?_
      refine g_icmp_ge (n := 178) (t := 205) C dX11_parts_175 rfl (by decide) (fun zc175 => ?_) (fun zc175 => ?_)
      · exact absurd zc175 (by decide)
      refine g_aload_n (n := 179) C dX11_parts_178 rfl rfl ?_
      refine m_get (n := 182) 25 C dX11_parts_179 rfl (by decide) rfl w_1125 rfl ?_
      refine g_iload (n := 184) C dX11_parts_182 rfl rfl ?_
      refine g_dup2 (n := 185) C dX11_parts_184 rfl rfl rfl ?_
      refine m_iald (n := 186) (v := B 25 4) 25 (4) C dX11_parts_185 rfl I (by decide) rfl rfl (by decide) (by decide) (rh3_25 B a lf (by decide)) ?_
      refine g_aload_n (n := 187) C dX11_parts_186 rfl rfl ?_
      refine m_get (n := 190) 21 C dX11_parts_187 rfl (by decide) rfl w_1121 rfl ?_
      refine g_iload_n (n := 191) C dX11_parts_190 rfl rfl ?_
      refine g_iconst (n := 192) (v := 4) C dX11_parts_191 rfl (by decide) ?_
      refine g_iadd (n := 193) C dX11_parts_192 rfl ?_
      refine g_iload (n := 195) C dX11_parts_193 rfl rfl ?_
      refine g_iadd (n := 196) C dX11_parts_195 rfl ?_
      refine m_iald (n := 197) (v := rdi B lf) 21 (a + 4 + 4) C dX11_parts_196 rfl I (by decide) rfl (ixp rfl 4 4) (by omega) (by decide) (by rw [rh3_21 B a lf]; exact rst0_rd4 B a lf) ?_
      refine g_iadd (n := 198) C dX11_parts_197 rfl ?_
      refine m_iast (n := 199) 25 (4) C dX11_parts_198 rfl I (by decide) (fun _ => rfl) rfl (by decide) (by decide) ?_
      refine g_iinc (n := 202) (v := 5) C dX11_parts_199 rfl rfl (by decide) (by decide) ?_
      refine g_goto (t := 171) C dX11_parts_202 (by decide) ?_
      refine (show G K E 7 (QM K E none 0 0 P) _ _ 171 _ _ (mh E o ad G9 (rh4 B a lf) h) from ?_)
      refine g_iload (n := 173) C dX11_parts_171 rfl rfl ?_
      refine g_bipush (n := 175) (v := 6) C dX11_parts_173 rfl (by decide) ?_
      refine g_icmp_ge (n := 178) (t := 205) C dX11_parts_175 rfl (by decide) (fun zc175 => ?_) (fun zc175 => ?_)
      · exact absurd zc175 (by decide)
      refine g_aload_n (n := 179) C dX11_parts_178 rfl rfl ?_
      refine m_get (n := 182) 25 C dX11_parts_179 rfl (by decide) rfl w_1125 rfl ?_
      refine g_iload (n := 184) C dX11_parts_182 rfl rfl ?_
      refine g_dup2 (n := 185) C dX11_parts_184 rfl rfl rfl ?_
      refine m_iald (n := 186) (v := B 25 5) 25 (5) C dX11_parts_185 rfl I (by decide) rfl rfl (by decide) (by decide) (rh4_25 B a lf (by decide)) ?_
      refine g_aload_n (n := 187) C dX11_parts_186 rfl rfl ?_
      refine m_get (n := 190) 21 C dX11_parts_187 rfl (by decide) rfl w_1121 rfl ?_
      refine g_iload_n (n := 191) C dX11_parts_190 rfl rfl ?_
      refine g_iconst (n := 192) (v := 4) C dX11_parts_191 rfl (by decide) ?_
      refine g_iadd (n := 193) C dX11_parts_192 rfl ?_
      refine g_iload (n := 195) C dX11_parts_193 rfl rfl ?_
      refine g_iadd (n := 196) C dX11_parts_195 rfl ?_
      refine m_iald (n := 197) (v := rsh B lf 5) 21 (a + 4 + 5) C dX11_parts_196 rfl I (by decide) rfl (ixp rfl 4 5) (by omega) (by decide) (by rw [rh4_21 B a lf]; exact rst0_rd5 B a lf) ?_
      refine g_iadd (n := 198) C dX11_parts_197 rfl ?_
      refine m_iast (n := 199) 25 (5) C dX11_parts_198 rfl I (by decide) (fun _ => rfl) rfl (by decide) (by decide) ?_
      refine g_iinc (n := 202) (v := 6) C dX11_parts_199 rfl rfl (by decide) (by decide) ?_
      refine g_goto (t := 171) C dX11_parts_202 (by decide) ?_
      refine (show G K E 7 (QM K E none 0 0 P) _ _ 171 _ _ (mh E o ad G9 (rtail B a lf) h) from ?_)
      refine g_iload (n := 173) C dX11_parts_171 rfl rfl ?_
      refine g_bipush (n := 175) (v := 6) C dX11_parts_173 rfl (by decide) ?_
      refine g_icmp_ge (n := 178) (t := 205) C dX11_parts_175 rfl (by decide) (fun zc175 => ?_) (fun zc175 => ?_)
      rotate_left
      · exact absurd zc175 (by decide)
      refine g_vret C dX11_parts_205 (by decide) (by decide) ?_
      exact hp
  refine g_iload_n (n := 1) C dX11_parts_0 rfl rfl ?_
  refine g_istore_n (n := 2) C dX11_parts_1 rfl (by decide) ?_
  refine g_aload_n (n := 3) C dX11_parts_2 rfl rfl ?_
  refine m_get (n := 6) 13 C dX11_parts_3 rfl (by decide) rfl w_1113 rfl ?_
  refine g_if_eq (n := 9) (t := 63) C dX11_parts_6 rfl (by decide) (fun zc6 => ?_) (fun zc6 => ?_)
  · --t6
    exact g_lv [0, 1, 2, 3] rfl (tail _ _ _ hz (fun k h1 h2 => z k h2) (by have zc16 : ¬ A 11 0 = 1 := (by rw [hz zc6 0]; decide); rw [← (rp_no (x := x) (F := F) zc16 (z 0 (by omega))).2]; have e := hp; rw [(rp_no (x := x) (F := F) zc16 (z 0 (by omega))).1] at e; exact e))
  · --f6
    refine g_aload_n (n := 10) C dX11_parts_9 rfl rfl ?_
    refine m_get (n := 13) 11 C dX11_parts_10 rfl (by decide) rfl w_1111 rfl ?_
    refine g_iconst (n := 14) (v := 0) C dX11_parts_13 rfl (by decide) ?_
    refine m_iald (n := 15) 11 (0) C dX11_parts_14 rfl I (by decide) rfl rfl (by decide) (by decide) rfl ?_
    refine g_iconst (n := 16) (v := 1) C dX11_parts_15 rfl (by decide) ?_
    refine g_icmp_ne (n := 19) (t := 63) C dX11_parts_16 rfl (by decide) (fun zc16 => ?_) (fun zc16 => ?_)
    · --t16
      exact g_lv [0, 1, 2, 3] rfl (tail _ _ _ hz (fun k h1 h2 => z k h2) (by rw [← (rp_no (x := x) (F := F) zc16 (z 0 (by omega))).2]; have e := hp; rw [(rp_no (x := x) (F := F) zc16 (z 0 (by omega))).1] at e; exact e))
    · --f16
      refine g_aload_n (n := 20) C dX11_parts_19 rfl rfl ?_
      refine m_get (n := 23) 21 C dX11_parts_20 rfl (by decide) rfl w_1121 rfl ?_
      refine g_iload_n (n := 24) C dX11_parts_23 rfl rfl ?_
      refine g_iconst (n := 25) (v := 4) C dX11_parts_24 rfl (by decide) ?_
      refine g_iadd (n := 26) C dX11_parts_25 rfl ?_
      refine g_aload_n (n := 27) C dX11_parts_26 rfl rfl ?_
      refine m_get (n := 30) 24 C dX11_parts_27 rfl (by decide) rfl w_1124 rfl ?_
      refine g_iload_n (n := 31) C dX11_parts_30 rfl rfl ?_
      refine g_min (n := 34) C dX11_parts_31 rfl mwM_min w_1308 (roomM hR rfl) ?_
      refine m_iast (n := 35) 21 (a + 4) C dX11_parts_34 rfl I (by decide) (fun _ => rfl) (ixq rfl 4) (by omega) (by decide) ?_
      refine g_aload_n (n := 36) C dX11_parts_35 rfl rfl ?_
      refine g_dup (n := 37) C dX11_parts_36 rfl rfl ?_
      refine m_get (n := 40) 24 C dX11_parts_37 rfl (by decide) rfl w_1124 rfl ?_
      refine g_aload_n (n := 41) C dX11_parts_40 rfl rfl ?_
      refine m_get (n := 44) 21 C dX11_parts_41 rfl (by decide) rfl w_1121 rfl ?_
      refine g_iload_n (n := 45) C dX11_parts_44 rfl rfl ?_
      refine g_iconst (n := 46) (v := 4) C dX11_parts_45 rfl (by decide) ?_
      refine g_iadd (n := 47) C dX11_parts_46 rfl ?_
      refine m_iald (n := 48) (v := imin (F 24) x) 21 (a + 4) C dX11_parts_47 rfl I (by decide) rfl (ixq rfl 4) (by omega) (by decide) (by exact aset_same _ _ _ _) ?_
      refine g_isub (n := 49) C dX11_parts_48 rfl ?_
      refine m_put (n := 52) 24 C dX11_parts_49 rfl (by decide) w_1124 rfl rfl rfl mfs_24 ?_
      refine g_iload_n (n := 53) C dX11_parts_52 rfl rfl ?_
      refine g_aload_n (n := 54) C dX11_parts_53 rfl rfl ?_
      refine m_get (n := 57) 21 C dX11_parts_54 rfl (by decide) rfl w_1121 rfl ?_
      refine g_iload_n (n := 58) C dX11_parts_57 rfl rfl ?_
      refine g_iconst (n := 59) (v := 4) C dX11_parts_58 rfl (by decide) ?_
      refine g_iadd (n := 60) C dX11_parts_59 rfl ?_
      refine m_iald (n := 61) (v := imin (F 24) x) 21 (a + 4) C dX11_parts_60 rfl I (by decide) rfl (ixq rfl 4) (by omega) (by decide) (by exact aset_same _ _ _ _) ?_
      refine g_isub (n := 62) C dX11_parts_61 rfl ?_
      refine g_istore_n (n := 63) C dX11_parts_62 rfl (by decide) ?_
      exact g_lv [0, 1, 2, 3] rfl (tail _ _ _ (fun zq k => absurd zq zc6) (fun k h1 h2 => (aset_rd _ _ (by omega)).trans (z k h2)) (by have e := hp; unfold rpF rpA rco at e; rw [if_pos zc16] at e; exact e))
