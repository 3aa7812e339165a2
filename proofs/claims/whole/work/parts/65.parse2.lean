theorem byte_bv (w : BitVec 32) (s : Nat) (hs : s ≤ 24) : (w.sshiftRight s).signExtend 8 = (w >>> s).signExtend 8 := by
  ext i hi
  rw [BitVec.getElem_signExtend, BitVec.getElem_signExtend]
  simp only [show i < 32 by omega, dif_pos, BitVec.getElem_sshiftRight, BitVec.getElem_ushiftRight]
  rw [dif_pos (show s + i < 32 by omega), BitVec.getLsbD_eq_getElem]
theorem byte_c (x : Int32) : ∀ c, c < 4 → (x >>> (nI (24 - 8 * c) &&& 31)).toInt8 = ((x.toUInt32 >>> ((nI (24 - 8 * c)).toUInt32 &&& Int32.toUInt32 31)).toInt32).toInt8 := by
  intro c hc
  match c, hc with
  | 0, _ => exact Int8.toBitVec_inj.mp (byte_bv x.toBitVec 24 (by decide))
  | 1, _ => exact Int8.toBitVec_inj.mp (byte_bv x.toBitVec 16 (by decide))
  | 2, _ => exact Int8.toBitVec_inj.mp (byte_bv x.toBitVec 8 (by decide))
  | 3, _ => exact Int8.toBitVec_inj.mp (byte_bv x.toBitVec 0 (by decide))
theorem fby_i : ∀ k, k < 20 → (24 - 8 * (nI k - nI k / 4 * 4)) = nI (24 - 8 * (k % 4)) := by decide +kernel
theorem fby_c (v : Nat → Int32) {k : Nat} (hk : k < 20) : fby v k = cby (v (k / 4)) (nI (24 - 8 * (k % 4))) := by
  unfold fby cby
  rw [fby_i k hk, byte_c _ (k % 4) (by omega)]
def pu4 (B : Nat → Int32) (n : Nat) (x : Int32) : Nat → Int32 := upd (upd (upd (upd B n (cby x 24)) (n + 1) (cby x 16)) (n + 2) (cby x 8)) (n + 3) (cby x 0)
theorem pu4_out {B : Nat → Int32} {n b : Nat} {x : Int32} (h : b < n ∨ n + 4 ≤ b) : pu4 B n x b = B b := by
  unfold pu4
  rw [qu_ne (by omega), qu_ne (by omega), qu_ne (by omega), qu_ne (by omega)]
theorem pu4_in {B : Nat → Int32} {n : Nat} {x : Int32} : ∀ c, c < 4 → pu4 B n x (n + c) = cby x (nI (24 - 8 * c)) := by
  intro c hc
  unfold pu4
  match c, hc with
  | 0, _ => rw [qu_ne (by omega), qu_ne (by omega), qu_ne (by omega)]; exact qu_at _ _ _
  | 1, _ => rw [qu_ne (by omega), qu_ne (by omega)]; exact qu_at _ _ _
  | 2, _ => rw [qu_ne (by omega)]; exact qu_at _ _ _
  | 3, _ => exact qu_at _ _ _
theorem rfv_at (A : Nat → Nat → Int32) (x0 x1 x2 x3 x4 : Int32) : rfv A x0 x1 x2 x3 x4 20 0 = x0 ∧ rfv A x0 x1 x2 x3 x4 20 1 = x1 ∧ rfv A x0 x1 x2 x3 x4 20 2 = x2 ∧ rfv A x0 x1 x2 x3 x4 20 3 = x3 ∧ rfv A x0 x1 x2 x3 x4 20 4 = x4 := by
  simp [aset]
theorem feed_row (A : Nat → Nat → Int32) (t : Nat) (x0 x1 x2 x3 x4 : Int32) : pu4 (pu4 (pu4 (pu4 (pu4 (A 14) t x0) (t + 4) x1) (t + 4 + 4) x2) (t + 4 + 4 + 4) x3) (t + 4 + 4 + 4 + 4) x4 = ft (rfv A x0 x1 x2 x3 x4) t 20 14 := by
  funext b
  obtain ⟨r0, r1, r2, r3, r4⟩ := rfv_at A x0 x1 x2 x3 x4
  unfold ft
  by_cases h : t ≤ b ∧ b < t + 20
  · rw [if_pos ⟨rfl, h⟩, fby_c _ (by omega)]
    by_cases c0 : b < t + 4
    · rw [pu4_out (by omega), pu4_out (by omega), pu4_out (by omega), pu4_out (by omega), show (b - t) / 4 = 0 from by omega, r0]
      have := pu4_in (B := A 14) (n := t) (x := x0) (b - t) (by omega)
      rw [show t + (b - t) = b from by omega] at this
      rw [this, show (b - t) % 4 = b - t from by omega]
    by_cases c1 : b < t + 8
    · rw [pu4_out (by omega), pu4_out (by omega), pu4_out (by omega), show (b - t) / 4 = 1 from by omega, r1]
      have := pu4_in (B := pu4 (A 14) t x0) (n := t + 4) (x := x1) (b - (t + 4)) (by omega)
      rw [show t + 4 + (b - (t + 4)) = b from by omega] at this
      rw [this, show (b - t) % 4 = b - (t + 4) from by omega]
    by_cases c2 : b < t + 12
    · rw [pu4_out (by omega), pu4_out (by omega), show (b - t) / 4 = 2 from by omega, r2]
      have := pu4_in (B := pu4 (pu4 (A 14) t x0) (t + 4) x1) (n := t + 4 + 4) (x := x2) (b - (t + 8)) (by omega)
      rw [show t + 4 + 4 + (b - (t + 8)) = b from by omega] at this
      rw [this, show (b - t) % 4 = b - (t + 8) from by omega]
    by_cases c3 : b < t + 16
    · rw [pu4_out (by omega), show (b - t) / 4 = 3 from by omega, r3]
      have := pu4_in (B := pu4 (pu4 (pu4 (A 14) t x0) (t + 4) x1) (t + 4 + 4) x2) (n := t + 4 + 4 + 4) (x := x3) (b - (t + 12)) (by omega)
      rw [show t + 4 + 4 + 4 + (b - (t + 12)) = b from by omega] at this
      rw [this, show (b - t) % 4 = b - (t + 12) from by omega]
    · rw [show (b - t) / 4 = 4 from by omega, r4]
      have := pu4_in (B := pu4 (pu4 (pu4 (pu4 (A 14) t x0) (t + 4) x1) (t + 4 + 4) x2) (t + 4 + 4 + 4) x3) (n := t + 4 + 4 + 4 + 4) (x := x4) (b - (t + 16)) (by omega)
      rw [show t + 4 + 4 + 4 + 4 + (b - (t + 16)) = b from by omega] at this
      rw [this, show (b - t) % 4 = b - (t + 16) from by omega]
  · rw [if_neg (fun q => h q.2), pu4_out (by omega), pu4_out (by omega), pu4_out (by omega), pu4_out (by omega), pu4_out (by omega)]
    rfl
theorem ft_rg {A : Nat → Nat → Int32} {t : Nat} {x0 x1 x2 x3 x4 : Int32} (h : ∀ k, -128 ≤ (A 14 k).toInt ∧ (A 14 k).toInt ≤ 127) : ∀ k, -128 ≤ (ft (rfv A x0 x1 x2 x3 x4) t 20 14 k).toInt ∧ (ft (rfv A x0 x1 x2 x3 x4) t 20 14 k).toInt ≤ 127 := by
  intro k
  unfold ft
  split
  · unfold fby
    rw [Int8.toInt_toInt32]
    exact ⟨Int8.le_toInt _, by have := Int8.toInt_lt ((rfv A x0 x1 x2 x3 x4 20 ((k - t) / 4) >>> (24 - 8 * (nI (k - t) - nI (k - t) / 4 * 4) &&& 31)).toInt8.toInt32.toInt8); omega⟩
  · exact h k
theorem parse_law {A : Nat → Nat → Int32} {e : Nat} (hB : rgB (A 14)) (he : e ≤ 400) :
    (∀ k, k ≠ 12 → (rlawS A e).2.2.2 k = A k) ∧
    ((rlawS A e).1 < 0 → ¬ (crd (cterm (cT (A 14)) e) (fun _ => True) (cT (A 14)) e 400 (cbl (A 14) e 0) (A 10 0, A 10 1, A 10 2) 1).2.2.1 = -1 ∧ (crd (cterm (cT (A 14)) e) (fun _ => True) (cT (A 14)) e 400 (cbl (A 14) e 0) (A 10 0, A 10 1, A 10 2) 1).2.2.1 = nI (rlawS A e).2.2.1) ∧
    (¬ (rlawS A e).1 < 0 → (crd (cterm (cT (A 14)) e) (fun _ => True) (cT (A 14)) e 400 (cbl (A 14) e 0) (A 10 0, A 10 1, A 10 2) 1).2.2.1 = -1 ∧ (crd (cterm (cT (A 14)) e) (fun _ => True) (cT (A 14)) e 400 (cbl (A 14) e 0) (A 10 0, A 10 1, A 10 2) 1).1 = (rlawS A e).1 ∧ (crd (cterm (cT (A 14)) e) (fun _ => True) (cT (A 14)) e 400 (cbl (A 14) e 0) (A 10 0, A 10 1, A 10 2) 1).2.2.2 = ((rlawS A e).2.2.2 12 0, (rlawS A e).2.2.2 12 1, (rlawS A e).2.2.2 12 2)) := by
  have h := all_r (fin := fun _ => True) (ok := fun _ => True) hB he (term_r hB he) (fun _ _ _ => Iff.rfl) (e + 1) 400 (rdl A) 0 (A 10 0, A 10 1, A 10 2) 1 rfl (Nat.zero_le _) (by simp [aset]) (by omega) (by omega) (by omega)
  rw [show cbl (A 14) e 0 = rsc (A 14) 32 32 e 0 from rsc32 hB e 0]
  obtain ⟨h0, h1, h2⟩ := h
  refine ⟨fun k hk => (h0 k hk).trans ?_, h1, h2⟩
  unfold rdl
  rw [aset_row _ _ _ hk, aset_row _ _ _ hk, aset_row _ _ _ hk]
theorem parse_agr {A : Nat → Nat → Int32} {e : Nat} (hB : rgB (A 14)) (he : e ≤ 400) :
    (∀ k, k ≠ 12 → (ragrS A e).2.2.2 k = A k) ∧
    ((ragrS A e).1 < 0 → ¬ (crd (cpartS (cT (A 14)) e) (fun x => csum x.2.2 ≤ 100) (cT (A 14)) e 400 (cbl (A 14) e 0) (0, 0, fun _ => 0) 1).2.2.1 = -1 ∧ (crd (cpartS (cT (A 14)) e) (fun x => csum x.2.2 ≤ 100) (cT (A 14)) e 400 (cbl (A 14) e 0) (0, 0, fun _ => 0) 1).2.2.1 = nI (ragrS A e).2.2.1) ∧
    (¬ (ragrS A e).1 < 0 → (crd (cpartS (cT (A 14)) e) (fun x => csum x.2.2 ≤ 100) (cT (A 14)) e 400 (cbl (A 14) e 0) (0, 0, fun _ => 0) 1).2.2.1 = -1 ∧ (crd (cpartS (cT (A 14)) e) (fun x => csum x.2.2 ≤ 100) (cT (A 14)) e 400 (cbl (A 14) e 0) (0, 0, fun _ => 0) 1).1 = (ragrS A e).1 ∧ agR (ragrS A e).2.2.2 (crd (cpartS (cT (A 14)) e) (fun x => csum x.2.2 ≤ 100) (cT (A 14)) e 400 (cbl (A 14) e 0) (0, 0, fun _ => 0) 1).2.2.2) := by
  have h := all_r (fin := rfin) (ok := fun x : AgX => csum x.2.2 ≤ 100) hB he (part_r hB he) (fun A x hx => by
    unfold rfin csum
    obtain ⟨-, -, a3, a4, -⟩ := hx
    rw [a3, a4 1 (by decide) (by decide), a4 2 (by decide) (by decide), a4 3 (by decide) (by decide), a4 4 (by decide) (by decide), a4 5 (by decide) (by decide), show (0 : Int32) + 0 = 0 from rfl, Int32.zero_add]) (e + 1) 400 (rd0 A) 0 (0, 0, fun _ => 0) 1 rfl (Nat.zero_le _) ⟨by simp [aset], by simp [aset], rfl, fun k h1 h2 => by
      match k, h1, h2 with
      | 1, _, _ => simp [aset]
      | 2, _, _ => simp [aset]
      | 3, _, _ => simp [aset]
      | 4, _, _ => simp [aset]
      | 5, _, _ => simp [aset], Or.inl (by simp [aset]), fun k h1 h2 => by
      match k, h1, h2 with
      | 1, _, _ => simp [aset] <;> decide
      | 2, _, _ => simp [aset] <;> decide
      | 3, _, _ => simp [aset] <;> decide
      | 4, _, _ => simp [aset] <;> decide
      | 5, _, _ => simp [aset] <;> decide⟩ (by omega) (by omega) (by omega)
  rw [show cbl (A 14) e 0 = rsc (A 14) 32 32 e 0 from rsc32 hB e 0]
  obtain ⟨h0, h1, h2⟩ := h
  refine ⟨fun k hk => (h0 k hk).trans ?_, h1, h2⟩
  unfold rd0
  rw [aset_row _ _ _ hk, aset_row _ _ _ hk, aset_row _ _ _ hk, aset_row _ _ _ hk, aset_row _ _ _ hk, aset_row _ _ _ hk, aset_row _ _ _ hk]
