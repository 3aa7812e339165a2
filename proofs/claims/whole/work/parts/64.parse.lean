/-! both sides read alike: B the signed bytes, cT B the class's own -/
abbrev rgB (B : Nat → Int32) : Prop := ∀ k, -128 ≤ (B k).toInt ∧ (B k).toInt ≤ 127
theorem and255 : ∀ b : Nat, b < 256 → ((Int32.ofInt ((b : Int) - 128)) &&& 255).toInt = if b < 128 then (b : Int) + 128 else (b : Int) - 128 := by decide +kernel
theorem cT_i {B : Nat → Int32} (hB : rgB B) (k : Nat) : (cT B k).toInt = if (B k).toInt < 0 then (B k).toInt + 256 else (B k).toInt := by
  obtain ⟨h1, h2⟩ := hB k
  have h3 := and255 ((B k).toInt + 128).toNat (by omega)
  rw [show ((((B k).toInt + 128).toNat : Nat) : Int) - 128 = (B k).toInt from by omega, Int32.ofInt_toInt] at h3
  show (B k &&& 255).toInt = _
  rw [h3]
  split <;> split <;> omega
theorem cT_in {B : Nat → Int32} (hB : rgB B) {lo hi : Int32} (h1 : 0 ≤ lo.toInt) (h2 : hi.toInt ≤ 127) (k : Nat) : (lo ≤ cT B k ∧ cT B k ≤ hi) ↔ (lo ≤ B k ∧ B k ≤ hi) := by
  rw [Int32.le_iff_toInt_le, Int32.le_iff_toInt_le, Int32.le_iff_toInt_le, Int32.le_iff_toInt_le, cT_i hB k]
  have := hB k
  split <;> omega
theorem cT_eq {B : Nat → Int32} (hB : rgB B) {x : Int32} (h1 : 0 ≤ x.toInt) (h2 : x.toInt ≤ 127) (k : Nat) : cT B k = x ↔ B k = x := by
  rw [← Int32.toInt_inj, ← Int32.toInt_inj, cT_i hB k]
  have := hB k
  split <;> omega
theorem rscF_c {T B : Nat → Int32} {lo hi : Int32} {e : Nat} (h : ∀ q, atc T e q lo hi ↔ atc B e q lo hi) : ∀ f p, rscF T lo hi e f p = rscF B lo hi e f p := by
  intro f
  induction f with
  | zero => intro p; rfl
  | succ f ih =>
    intro p
    unfold rscF
    by_cases c : atc T e p lo hi
    · rw [if_pos c, if_pos ((h p).mp c)]
      exact ih (p + 1)
    · rw [if_neg c, if_neg (fun q => c ((h p).mpr q))]
theorem rsc_T {B : Nat → Int32} (hB : rgB B) {lo hi : Int32} (h1 : 0 ≤ lo.toInt) (h2 : hi.toInt ≤ 127) (e p : Nat) : rsc (cT B) lo hi e p = rsc B lo hi e p :=
  rscF_c (fun q => and_congr Iff.rfl (cT_in hB h1 h2 q)) _ _
theorem rscF_in {T : Nat → Int32} {lo hi : Int32} {e : Nat} : ∀ f p q, p ≤ q → q < rscF T lo hi e f p → atc T e q lo hi := by
  intro f
  induction f with
  | zero => intro p q h1 h2; exact absurd (show q < p from h2) (by omega)
  | succ f ih =>
    intro p q h1 h2
    unfold rscF at h2
    by_cases c : atc T e p lo hi
    · rw [if_pos c] at h2
      by_cases d : p = q
      · rw [← d]; exact c
      · exact ih (p + 1) q (by omega) h2
    · rw [if_neg c] at h2
      omega
theorem rsc32 {B : Nat → Int32} (hB : rgB B) (e p : Nat) : rsc (cT B) 32 32 e p = rsc B 32 32 e p := rsc_T hB (by decide) (by decide) e p
theorem rsc97 {B : Nat → Int32} (hB : rgB B) (e p : Nat) : rsc (cT B) 97 122 e p = rsc B 97 122 e p := rsc_T hB (by decide) (by decide) e p
theorem rsc48 {B : Nat → Int32} (hB : rgB B) (e p : Nat) : rsc (cT B) 48 57 e p = rsc B 48 57 e p := rsc_T hB (by decide) (by decide) e p
theorem sbt_r : ∀ i, i < 11 → ∀ j, j < SLEN.getD i 0 → 0 ≤ (sbt i j).toInt ∧ (sbt i j).toInt ≤ 127 := by decide +kernel
theorem rwd_T {B : Nat → Int32} (hB : rgB B) {b r i : Nat} (hi : i < 11) : rwd (cT B) b r i ↔ rwd B b r i :=
  and_congr Iff.rfl ⟨fun h k hk => (cT_eq hB (sbt_r i hi k hk).1 (sbt_r i hi k hk).2 _).mp (h k hk), fun h k hk => (cT_eq hB (sbt_r i hi k hk).1 (sbt_r i hi k hk).2 _).mpr (h k hk)⟩
theorem rnv_T {T B : Nat → Int32} {b : Nat} : ∀ k, (∀ j, j < k → T (b + j) = B (b + j)) → rnv T b k = rnv B b k := by
  intro k
  induction k with
  | zero => intro _; rfl
  | succ k ih =>
    intro h
    unfold rnv
    rw [ih (fun j hj => h j (by omega)), h k (by omega)]
theorem dig_T {B : Nat → Int32} (hB : rgB B) {e p j : Nat} (h : p + j < rsc B 48 57 e p) : cT B (p + j) = B (p + j) := by
  have h1 := (rscF_in _ p (p + j) (by omega) h).2.1
  have h2 := Int32.le_iff_toInt_le.mp h1
  rw [show (48 : Int32).toInt = 48 from by decide] at h2
  refine Int32.toInt_inj.mp ?_
  rw [cT_i hB, if_neg (by omega)]
theorem rnv_D {B : Nat → Int32} (hB : rgB B) (e p : Nat) : rnv (cT B) p (rsc B 48 57 e p - p) = rnv B p (rsc B 48 57 e p - p) := rnv_T _ (fun j hj => dig_T hB (e := e) (by omega))
theorem rnok_T {B : Nat → Int32} (hB : rgB B) (e p : Nat) (lo hi : Int32) : rnok (cT B) p (rsc B 48 57 e p) lo hi ↔ rnok B p (rsc B 48 57 e p) lo hi := by
  unfold rnok
  rw [rnv_D hB]
theorem cnum_ok {B : Nat → Int32} (hB : rgB B) {e p : Nat} {lo hi ff : Int32} (h : rnok B p (rsc B 48 57 e p) lo hi) : cnum (cT B) e p lo hi ff = (rnv B p (rsc B 48 57 e p - p), rsc B 32 32 e (rsc B 48 57 e p), ff) := by
  unfold cnum
  rw [rsc48 hB, if_pos ((rnok_T hB e p lo hi).mpr h), rsc32 hB, rnv_D hB]
theorem cnum_no {B : Nat → Int32} (hB : rgB B) {e p : Nat} {lo hi ff : Int32} (h : ¬ rnok B p (rsc B 48 57 e p) lo hi) : cnum (cT B) e p lo hi ff = (-1, p, cff ff (nI p)) := by
  unfold cnum
  rw [rsc48 hB, if_neg (fun q => h ((rnok_T hB e p lo hi).mp q))]
theorem cxw_ok {B : Nat → Int32} (hB : rgB B) {e p i : Nat} (hi : i < 11) {ff : Int32} (h : rwd B p (rsc B 97 122 e p) i) : cxw (cT B) e p i ff = (rsc B 32 32 e (rsc B 97 122 e p), ff) := by
  unfold cxw
  rw [rsc97 hB, if_pos ((rwd_T hB hi).mpr h), rsc32 hB]
theorem cxw_no {B : Nat → Int32} (hB : rgB B) {e p i : Nat} (hi : i < 11) {ff : Int32} (h : ¬ rwd B p (rsc B 97 122 e p) i) : cxw (cT B) e p i ff = (p, cff ff (nI p)) := by
  unfold cxw
  rw [rsc97 hB, if_neg (fun q => h ((rwd_T hB hi).mp q))]
theorem nI_m1 {p : Nat} (h : p ≤ 400) : ¬ nI p = -1 := fun q => by
  have h1 := congrArg Int32.toInt q
  rw [nI_i (by omega), show (-1 : Int32).toInt = -1 from by decide] at h1
  omega
theorem cff_m (p : Nat) : cff (-1) (nI p) = nI p := if_pos rfl
theorem cff_k {ff : Int32} (h : ¬ ff = -1) (p : Int32) : cff ff p = ff := if_neg h
theorem cnum_ff {T : Nat → Int32} {e p : Nat} {lo hi ff : Int32} (h : ¬ ff = -1) : (cnum T e p lo hi ff).2.2 = ff := by
  unfold cnum
  split
  · rfl
  · exact cff_k h _
theorem cxw_ff {T : Nat → Int32} {e p i : Nat} {ff : Int32} (h : ¬ ff = -1) : (cxw T e p i ff).2 = ff := by
  unfold cxw
  split
  · rfl
  · exact cff_k h _
/-- one clause, on both sides -/
def stepR {X : Type} (B : Nat → Int32) (e : Nat) (sp : (Nat → Nat → Int32) → Nat → Nat → RS) (cl : Nat → X → Nat × Int32 × X) (RX : (Nat → Nat → Int32) → X → Prop) : Prop :=
  ∀ A q x, A 14 = B → q ≤ e → RX A x → (∀ k, k ≠ 12 → (sp A e q).2.2.2 k = A k) ∧
    ((sp A e q).1 = 0 → ¬ (cl (rsc B 32 32 e q) x).2.1 = -1 ∧ (cl (rsc B 32 32 e q) x).2.1 = nI (sp A e q).2.2.1) ∧
    (¬ (sp A e q).1 = 0 → (cl (rsc B 32 32 e q) x).2.1 = -1 ∧ (cl (rsc B 32 32 e q) x).1 = rsc B 32 32 e (sp A e q).2.1 ∧ RX (sp A e q).2.2.2 (cl (rsc B 32 32 e q) x).2.2 ∧ q + 1 ≤ (sp A e q).2.1 ∧ (sp A e q).2.1 ≤ e)
theorem all_r {X : Type} {B : Nat → Int32} {e : Nat} {sp : (Nat → Nat → Int32) → Nat → Nat → RS} {cl : Nat → X → Nat × Int32 × X} {RX : (Nat → Nat → Int32) → X → Prop} {fin : (Nat → Nat → Int32) → Prop} {ok : X → Prop} (hB : rgB B) (he : e ≤ 400) (hs : stepR B e sp cl RX) (hf : ∀ A x, RX A x → (fin A ↔ ok x)) :
    ∀ f g A q x n, A 14 = B → q ≤ e → RX A x → e + 1 ≤ q + f → 800 ≤ 2 * g + q → n ≤ q + 1 →
      (∀ k, k ≠ 12 → (rallS sp fin e f A q n).2.2.2 k = A k) ∧
      ((rallS sp fin e f A q n).1 < 0 → ¬ (crd cl ok (cT B) e g (rsc B 32 32 e q) x (nI n)).2.2.1 = -1 ∧ (crd cl ok (cT B) e g (rsc B 32 32 e q) x (nI n)).2.2.1 = nI (rallS sp fin e f A q n).2.2.1) ∧
      (¬ (rallS sp fin e f A q n).1 < 0 → (crd cl ok (cT B) e g (rsc B 32 32 e q) x (nI n)).2.2.1 = -1 ∧ (crd cl ok (cT B) e g (rsc B 32 32 e q) x (nI n)).1 = (rallS sp fin e f A q n).1 ∧ RX (rallS sp fin e f A q n).2.2.2 (crd cl ok (cT B) e g (rsc B 32 32 e q) x (nI n)).2.2.2) := by
  intro f
  induction f with
  | zero => intro g A q x n h1 h2 h3 h4; omega
  | succ f ih =>
    intro g A q x n hA hq hx hfu hg hn
    obtain ⟨g, rfl⟩ : ∃ g', g = g' + 1 := ⟨g - 1, by omega⟩
    obtain ⟨s0, s1, s2⟩ := hs A q x hA hq hx
    have hA' : (sp A e q).2.2.2 14 = B := (s0 14 (by decide)).trans hA
    by_cases c0 : (sp A e q).1 = 0
    · obtain ⟨t1, t2⟩ := s1 c0
      have eS : rallS sp fin e (f + 1) A q n = (-1, (sp A e q).2.1, (sp A e q).2.2.1, (sp A e q).2.2.2) := rall_n rfl c0
      have eR := crd_0 (ok := ok) (T := cT B) (n := e) (f := g) (c := nI n) rfl t1
      rw [eS, eR]
      exact ⟨s0, fun _ => ⟨t1, t2⟩, fun h => absurd (show (-1 : Int32) < 0 by decide) h⟩
    · obtain ⟨t1, t2, t3, t4, t5⟩ := s2 c0
      have hpos : (cl (rsc B 32 32 e q) x).1 ≤ e := by rw [t2]; exact rsc_le t5
      have hpg : (sp A e q).2.1 ≤ rsc B 32 32 e (sp A e q).2.1 := rsc_ge _ _ _ _ _
      have ebl : rbl (sp A e q).2.2.2 e (sp A e q).2.1 = (cl (rsc B 32 32 e q) x).1 := by
        rw [t2]
        show rsc ((sp A e q).2.2.2 14) 32 32 e _ = _
        rw [hA']
      by_cases c1 : (cl (rsc B 32 32 e q) x).1 = e
      · have eR := crd_f (ok := ok) (T := cT B) (n := e) (f := g) (c := nI n) rfl t1 (fun z => absurd z.1 (by omega))
        have e1 := rall_e (fin := fin) (f := f) (n := n) rfl c0 (ebl.trans c1)
        by_cases c2 : fin (sp A e q).2.2.2
        · have eS : rallS sp fin e (f + 1) A q n = (nI n, e, e, (sp A e q).2.2.2) := e1.1 c2
          rw [eS, eR]
          have hnn : ¬ nI n < 0 := Int32.not_lt.mpr (nI_le (a := 0) (Nat.zero_le _) (by omega))
          refine ⟨s0, fun h => absurd h hnn, fun _ => ⟨?_, rfl, t3⟩⟩
          show cfin _ _ _ = -1
          rw [cfin, if_pos ((hf _ _ t3).mp c2), if_neg (by omega)]
        · have eS : rallS sp fin e (f + 1) A q n = (-1, e, e, (sp A e q).2.2.2) := e1.2 c2
          rw [eS, eR]
          refine ⟨s0, fun _ => ?_, fun h => absurd (show (-1 : Int32) < 0 by decide) h⟩
          show ¬ cfin _ _ _ = -1 ∧ cfin _ _ _ = nI e
          rw [cfin, if_neg (fun z => c2 ((hf _ _ t3).mpr z)), if_neg (by omega), cff_m, c1]
          exact ⟨nI_m1 he, rfl⟩
      · by_cases c2 : atc ((sp A e q).2.2.2 14) e (rbl (sp A e q).2.2.2 e (sp A e q).2.1) 59 59
        · have eS : rallS sp fin e f (sp A e q).2.2.2 (rbl (sp A e q).2.2.2 e (sp A e q).2.1 + 1) (n + 1) = rallS sp fin e (f + 1) A q n := rall_s rfl c0 (fun z => c1 (ebl.symm.trans z)) c2
          rw [ebl] at eS c2
          rw [hA'] at c2
          have h59 : cT B (cl (rsc B 32 32 e q) x).1 = 59 := (cT_eq hB (by decide) (by decide) _).mpr (Int32.le_antisymm c2.2.2 c2.2.1)
          have eR := crd_s (ok := ok) (T := cT B) (n := e) (f := g) (c := nI n) rfl t1 c2.1 h59
          rw [rsc32 hB, nI_1] at eR
          rw [← eS, ← eR]
          obtain ⟨u0, u1, u2⟩ := ih g (sp A e q).2.2.2 ((cl (rsc B 32 32 e q) x).1 + 1) (cl (rsc B 32 32 e q) x).2.2 (n + 1) hA' c2.1 t3 (by omega) (by omega) (by omega)
          exact ⟨fun k hk => (u0 k hk).trans (s0 k hk), u1, u2⟩
        · have eS : rallS sp fin e (f + 1) A q n = (-1, rbl (sp A e q).2.2.2 e (sp A e q).2.1, rbl (sp A e q).2.2.2 e (sp A e q).2.1, (sp A e q).2.2.2) := rall_x rfl c0 (fun z => c1 (ebl.symm.trans z)) c2
          rw [ebl] at eS c2
          rw [hA'] at c2
          have hlt : (cl (rsc B 32 32 e q) x).1 < e := by omega
          have h59 : ¬ ((cl (rsc B 32 32 e q) x).1 < e ∧ cT B (cl (rsc B 32 32 e q) x).1 = 59) := fun z => by
            have := (cT_eq hB (by decide) (by decide) _).mp z.2
            exact c2 ⟨z.1, by rw [this]; decide, by rw [this]; decide⟩
          have eR := crd_f (ok := ok) (T := cT B) (n := e) (f := g) (c := nI n) rfl t1 h59
          rw [eS, eR]
          refine ⟨s0, fun _ => ?_, fun h => absurd (show (-1 : Int32) < 0 by decide) h⟩
          have hfi : cfin (ok (cl (rsc B 32 32 e q) x).2.2) e (cl (rsc B 32 32 e q) x).1 = nI (cl (rsc B 32 32 e q) x).1 := by
            unfold cfin
            rw [if_pos hlt]
            split
            · rfl
            · exact cff_k (nI_m1 (by omega)) _
          show ¬ cfin _ _ _ = -1 ∧ cfin _ _ _ = _
          rw [hfi]
          exact ⟨nI_m1 (by omega), rfl⟩
theorem slen_0 : ∀ i, i < 11 → 1 ≤ SLEN.getD i 0 := by decide
theorem num_r {A : Nat → Nat → Int32} {B : Nat → Int32} {e r j : Nat} {lo hi : Int32} (hB : rgB B) (hA : A 14 = B) : (rnok B (rsc B 32 32 e r) (rsc B 48 57 e (rsc B 32 32 e r)) lo hi → rnumS A e r j lo hi = (1, rsc B 48 57 e (rsc B 32 32 e r), rsc B 32 32 e r, aset A 12 j (rnv B (rsc B 32 32 e r) (rsc B 48 57 e (rsc B 32 32 e r) - rsc B 32 32 e r))) ∧ cnum (cT B) e (rsc B 32 32 e r) lo hi (-1) = (rnv B (rsc B 32 32 e r) (rsc B 48 57 e (rsc B 32 32 e r) - rsc B 32 32 e r), rsc B 32 32 e (rsc B 48 57 e (rsc B 32 32 e r)), -1)) ∧
    (¬ rnok B (rsc B 32 32 e r) (rsc B 48 57 e (rsc B 32 32 e r)) lo hi → rnumS A e r j lo hi = (0, rsc B 48 57 e (rsc B 32 32 e r), rsc B 32 32 e r, aset A 12 j (rnv B (rsc B 32 32 e r) (rsc B 48 57 e (rsc B 32 32 e r) - rsc B 32 32 e r))) ∧ cnum (cT B) e (rsc B 32 32 e r) lo hi (-1) = (-1, rsc B 32 32 e r, nI (rsc B 32 32 e r))) := by
  subst hA
  exact ⟨fun h => ⟨rnum_1 h, cnum_ok hB h⟩, fun h => ⟨rnum_0 h, by rw [cnum_no hB h, cff_m]⟩⟩
theorem term_r {B : Nat → Int32} {e : Nat} (hB : rgB B) (he : e ≤ 400) : stepR B e rtermS (cterm (cT B) e) (fun A x => x = (A 12 0, A 12 1, A 12 2)) := by
  intro A q x hA hq hx
  subst hx
  have hr : q ≤ rsc B 32 32 e q := rsc_ge _ _ _ _ _
  have hre : rsc B 32 32 e q ≤ e := rsc_le hq
  have hwe : (rsc B 97 122 e (rsc B 32 32 e q)) ≤ e := rsc_le hre
  have hp2 : rsc B 32 32 e (rsc B 97 122 e (rsc B 32 32 e q)) ≤ e := rsc_le hwe
  have hg1 : (rsc B 97 122 e (rsc B 32 32 e q)) ≤ rsc B 32 32 e (rsc B 97 122 e (rsc B 32 32 e q)) := rsc_ge _ _ _ _ _
  have hg2 : rsc B 32 32 e (rsc B 97 122 e (rsc B 32 32 e q)) ≤ rsc B 48 57 e (rsc B 32 32 e (rsc B 97 122 e (rsc B 32 32 e q))) := rsc_ge _ _ _ _ _
  have hd2 : rsc B 48 57 e (rsc B 32 32 e (rsc B 97 122 e (rsc B 32 32 e q))) ≤ e := rsc_le hp2
  have erw : rwr A e q = (rsc B 97 122 e (rsc B 32 32 e q)) := by show rsc (A 14) 97 122 e (rsc (A 14) 32 32 e q) = _; rw [hA]
  have erb : rwb A e q = rsc B 32 32 e q := by show rsc (A 14) 32 32 e q = _; rw [hA]
  have eri : ∀ i, rwi A e q i = rwd B (rsc B 32 32 e q) (rsc B 97 122 e (rsc B 32 32 e q)) i := fun i => by show rwd (A 14) (rsc (A 14) 32 32 e q) (rsc (A 14) 97 122 e (rsc (A 14) 32 32 e q)) i = _; rw [hA]
  unfold rtermS cterm
  rw [rsc97 hB, rsc32 hB, erw, erb, eri 0, eri 1, eri 2]
  by_cases w0 : rwd B (rsc B 32 32 e q) (rsc B 97 122 e (rsc B 32 32 e q)) 0
  · have hlen := w0.1
    have hl0 := slen_0 0 (by decide)
    rw [rif_1 w0, if_pos ((rwd_T hB (by decide)).mpr w0)]
    obtain ⟨n1, n0⟩ := num_r (A := A) (e := e) (r := (rsc B 97 122 e (rsc B 32 32 e q))) (j := 0) (lo := 0) (hi := 11) hB hA
    by_cases k9 : rnok B (rsc B 32 32 e (rsc B 97 122 e (rsc B 32 32 e q))) (rsc B 48 57 e (rsc B 32 32 e (rsc B 97 122 e (rsc B 32 32 e q)))) 0 11
    · rw [(n1 k9).1, (n1 k9).2]
      refine ⟨fun k hk => aset_row _ _ _ hk, fun z => absurd (show (1 : Int32) = 0 from z) (by decide), fun _ => ⟨rfl, rfl, ?_, (by show q + 1 ≤ rsc B 48 57 e (rsc B 32 32 e (rsc B 97 122 e (rsc B 32 32 e q))); omega), hd2⟩⟩
      simp [aset]
    · rw [(n0 k9).1, (n0 k9).2]
      exact ⟨fun k hk => aset_row _ _ _ hk, fun _ => ⟨nI_m1 (by omega), rfl⟩, fun z => absurd rfl z⟩
  by_cases w1 : rwd B (rsc B 32 32 e q) (rsc B 97 122 e (rsc B 32 32 e q)) 1
  · have hlen := w1.1
    have hl0 := slen_0 1 (by decide)
    rw [rif_0 w0, rif_1 w1, if_neg (fun z => w0 ((rwd_T hB (by decide)).mp z)), if_pos ((rwd_T hB (by decide)).mpr w1)]
    obtain ⟨n1, n0⟩ := num_r (A := A) (e := e) (r := (rsc B 97 122 e (rsc B 32 32 e q))) (j := 1) (lo := 1) (hi := 1000) hB hA
    by_cases k9 : rnok B (rsc B 32 32 e (rsc B 97 122 e (rsc B 32 32 e q))) (rsc B 48 57 e (rsc B 32 32 e (rsc B 97 122 e (rsc B 32 32 e q)))) 1 1000
    · rw [(n1 k9).1, (n1 k9).2]
      refine ⟨fun k hk => aset_row _ _ _ hk, fun z => absurd (show (1 : Int32) = 0 from z) (by decide), fun _ => ⟨rfl, rfl, ?_, (by show q + 1 ≤ rsc B 48 57 e (rsc B 32 32 e (rsc B 97 122 e (rsc B 32 32 e q))); omega), hd2⟩⟩
      simp [aset]
    · rw [(n0 k9).1, (n0 k9).2]
      exact ⟨fun k hk => aset_row _ _ _ hk, fun _ => ⟨nI_m1 (by omega), rfl⟩, fun z => absurd rfl z⟩
  by_cases w2 : rwd B (rsc B 32 32 e q) (rsc B 97 122 e (rsc B 32 32 e q)) 2
  · have hlen := w2.1
    have hl0 := slen_0 2 (by decide)
    rw [rif_0 w0, rif_0 w1, rif_1 w2, if_neg (fun z => w0 ((rwd_T hB (by decide)).mp z)), if_neg (fun z => w1 ((rwd_T hB (by decide)).mp z)), if_pos ((rwd_T hB (by decide)).mpr w2)]
    obtain ⟨n1, n0⟩ := num_r (A := A) (e := e) (r := (rsc B 97 122 e (rsc B 32 32 e q))) (j := 2) (lo := 0) (hi := 100000) hB hA
    by_cases k9 : rnok B (rsc B 32 32 e (rsc B 97 122 e (rsc B 32 32 e q))) (rsc B 48 57 e (rsc B 32 32 e (rsc B 97 122 e (rsc B 32 32 e q)))) 0 100000
    · rw [(n1 k9).1, (n1 k9).2]
      refine ⟨fun k hk => aset_row _ _ _ hk, fun z => absurd (show (1 : Int32) = 0 from z) (by decide), fun _ => ⟨rfl, rfl, ?_, (by show q + 1 ≤ rsc B 48 57 e (rsc B 32 32 e (rsc B 97 122 e (rsc B 32 32 e q))); omega), hd2⟩⟩
      simp [aset]
    · rw [(n0 k9).1, (n0 k9).2]
      exact ⟨fun k hk => aset_row _ _ _ hk, fun _ => ⟨nI_m1 (by omega), rfl⟩, fun z => absurd rfl z⟩
  rw [rif_0 w0, rif_0 w1, rif_0 w2, if_neg (fun z => w0 ((rwd_T hB (by decide)).mp z)), if_neg (fun z => w1 ((rwd_T hB (by decide)).mp z)), if_neg (fun z => w2 ((rwd_T hB (by decide)).mp z)), cff_m]
  exact ⟨fun k hk => rfl, fun _ => ⟨nI_m1 (by omega), rfl⟩, fun z => absurd rfl z⟩
abbrev agR (A : Nat → Nat → Int32) (x : AgX) : Prop := x.1 = A 12 0 ∧ x.2.1 = A 12 6 ∧ x.2.2 0 = 0 ∧ (∀ k, 1 ≤ k → k < 6 → x.2.2 k = A 12 k) ∧ (A 12 0 = 0 ∨ A 12 0 = 1) ∧ ∀ k, 1 ≤ k → k < 6 → 0 ≤ A 12 k ∧ A 12 k ≤ 100
theorem agR_h {A : Nat → Nat → Int32} {x : AgX} (hx : agR A x) {j : Nat} (h1 : 1 ≤ j) (h2 : j < 6) (v : Int32) (hv : 0 ≤ v ∧ v ≤ 100) : agR (aset A 12 j v) (x.1, x.2.1, upd x.2.2 j v) := by
  obtain ⟨a1, a2, a3, a4, a5, a6⟩ := hx
  refine ⟨?_, ?_, ?_, fun k k1 k2 => ?_, ?_, fun k k1 k2 => ?_⟩
  · rw [aset_ne _ _ (fun q => by omega)]; exact a1
  · rw [aset_ne _ _ (fun q => by omega)]; exact a2
  · show upd x.2.2 j v 0 = 0
    rw [qu_ne (by omega)]; exact a3
  · show upd x.2.2 j v k = _
    by_cases c : k = j
    · subst c; rw [qu_at, aset_same]
    · rw [qu_ne c, aset_ne _ _ (fun q => c q.2)]; exact a4 k k1 k2
  · rw [aset_ne _ _ (fun q => by omega)]; exact a5
  · by_cases c : k = j
    · subst c; rw [aset_same]; exact hv
    · rw [aset_ne _ _ (fun q => c q.2)]; exact a6 k k1 k2
theorem agR_0 {A : Nat → Nat → Int32} {x : AgX} (hx : agR A x) : agR (aset A 12 0 1) (1, x.2.1, x.2.2) := by
  obtain ⟨a1, a2, a3, a4, a5, a6⟩ := hx
  refine ⟨(aset_same _ _ _ _).symm, ?_, a3, fun k k1 k2 => ?_, Or.inr (aset_same _ _ _ _), fun k k1 k2 => by rw [aset_ne _ _ (fun q => by omega)]; exact a6 k k1 k2⟩
  · rw [aset_ne _ _ (fun q => by omega)]; exact a2
  · rw [aset_ne _ _ (fun q => by omega)]; exact a4 k k1 k2
theorem agR_6 {A : Nat → Nat → Int32} {x : AgX} (hx : agR A x) (v : Int32) : agR (aset A 12 6 v) (x.1, v, x.2.2) := by
  obtain ⟨a1, a2, a3, a4, a5, a6⟩ := hx
  refine ⟨?_, (aset_same _ _ _ _).symm, a3, fun k k1 k2 => ?_, ?_, fun k k1 k2 => by rw [aset_ne _ _ (fun q => by omega)]; exact a6 k k1 k2⟩
  · rw [aset_ne _ _ (fun q => by omega)]; exact a1
  · rw [aset_ne _ _ (fun q => by omega)]; exact a4 k k1 k2
  · rw [aset_ne _ _ (fun q => by omega)]; exact a5
set_option maxHeartbeats 1000000 in
theorem part_r {B : Nat → Int32} {e : Nat} (hB : rgB B) (he : e ≤ 400) : stepR B e rpartS (cpartS (cT B) e) agR := by
  intro A q x hA hq hx
  have hr : q ≤ rsc B 32 32 e q := rsc_ge _ _ _ _ _
  have hre : rsc B 32 32 e q ≤ e := rsc_le hq
  have hwe : (rsc B 97 122 e (rsc B 32 32 e q)) ≤ e := rsc_le hre
  have hp2 : (rsc B 32 32 e (rsc B 97 122 e (rsc B 32 32 e q))) ≤ e := rsc_le hwe
  have hg1 : (rsc B 97 122 e (rsc B 32 32 e q)) ≤ (rsc B 32 32 e (rsc B 97 122 e (rsc B 32 32 e q))) := rsc_ge _ _ _ _ _
  have hg2 : (rsc B 32 32 e (rsc B 97 122 e (rsc B 32 32 e q))) ≤ rsc B 48 57 e (rsc B 32 32 e (rsc B 97 122 e (rsc B 32 32 e q))) := rsc_ge _ _ _ _ _
  have hd2 : rsc B 48 57 e (rsc B 32 32 e (rsc B 97 122 e (rsc B 32 32 e q))) ≤ e := rsc_le hp2
  have erw : rwr A e q = (rsc B 97 122 e (rsc B 32 32 e q)) := by show rsc (A 14) 97 122 e (rsc (A 14) 32 32 e q) = _; rw [hA]
  have erb : rwb A e q = rsc B 32 32 e q := by show rsc (A 14) 32 32 e q = _; rw [hA]
  have eri : ∀ i, rwi A e q i = rwd B (rsc B 32 32 e q) (rsc B 97 122 e (rsc B 32 32 e q)) i := fun i => by show rwd (A 14) (rsc (A 14) 32 32 e q) (rsc (A 14) 97 122 e (rsc (A 14) 32 32 e q)) i = _; rw [hA]
  unfold rpartS cpartS
  rw [rsc97 hB, rsc32 hB, erw, erb, eri 3, eri 5, eri 6, eri 7, eri 9, eri 10]
  by_cases w3 : rwd B (rsc B 32 32 e q) (rsc B 97 122 e (rsc B 32 32 e q)) 3
  · have hlen := w3.1
    have hl0 := slen_0 3 (by decide)
    rw [rif_1 w3, if_pos ((rwd_T hB (by decide)).mpr w3)]
    have erw2 : rwr A e (rsc B 97 122 e (rsc B 32 32 e q)) = (rsc B 97 122 e (rsc B 32 32 e (rsc B 97 122 e (rsc B 32 32 e q)))) := by show rsc (A 14) 97 122 e (rsc (A 14) 32 32 e (rsc B 97 122 e (rsc B 32 32 e q))) = _; rw [hA]
    have erb2 : rwb A e (rsc B 97 122 e (rsc B 32 32 e q)) = (rsc B 32 32 e (rsc B 97 122 e (rsc B 32 32 e q))) := by show rsc (A 14) 32 32 e (rsc B 97 122 e (rsc B 32 32 e q)) = _; rw [hA]
    have eri2 : rwi A e (rsc B 97 122 e (rsc B 32 32 e q)) 4 = rwd B (rsc B 32 32 e (rsc B 97 122 e (rsc B 32 32 e q))) (rsc B 97 122 e (rsc B 32 32 e (rsc B 97 122 e (rsc B 32 32 e q)))) 4 := by show rwd (A 14) (rsc (A 14) 32 32 e (rsc B 97 122 e (rsc B 32 32 e q))) (rsc (A 14) 97 122 e (rsc (A 14) 32 32 e (rsc B 97 122 e (rsc B 32 32 e q)))) 4 = _; rw [hA]
    unfold rcostS
    rw [erw2, erb2, eri2]
    have hw2 : (rsc B 32 32 e (rsc B 97 122 e (rsc B 32 32 e q))) ≤ (rsc B 97 122 e (rsc B 32 32 e (rsc B 97 122 e (rsc B 32 32 e q)))) := rsc_ge _ _ _ _ _
    by_cases v4 : rwd B (rsc B 32 32 e (rsc B 97 122 e (rsc B 32 32 e q))) (rsc B 97 122 e (rsc B 32 32 e (rsc B 97 122 e (rsc B 32 32 e q)))) 4
    · rw [rif_1 v4, cxw_ok hB (by decide) v4]
      exact ⟨fun k hk => aset_row _ _ _ hk, fun z => absurd (show (1 : Int32) = 0 from z) (by decide), fun _ => ⟨rfl, rfl, agR_0 hx, (by show q + 1 ≤ (rsc B 97 122 e (rsc B 32 32 e (rsc B 97 122 e (rsc B 32 32 e q)))); omega), rsc_le hp2⟩⟩
    · rw [rif_0 v4, cxw_no hB (by decide) v4, cff_m]
      exact ⟨fun k hk => aset_row _ _ _ hk, fun _ => ⟨nI_m1 (by omega), rfl⟩, fun z => absurd rfl z⟩
  by_cases w5 : rwd B (rsc B 32 32 e q) (rsc B 97 122 e (rsc B 32 32 e q)) 5
  · have hlen := w5.1
    have hl0 := slen_0 5 (by decide)
    rw [rif_0 w3, rif_1 w5, if_neg (fun z => w3 ((rwd_T hB (by decide)).mp z)), if_pos ((rwd_T hB (by decide)).mpr w5)]
    obtain ⟨n1, n0⟩ := num_r (A := A) (e := e) (r := (rsc B 97 122 e (rsc B 32 32 e q))) (j := 1) (lo := 0) (hi := 100) hB hA
    by_cases k9 : rnok B (rsc B 32 32 e (rsc B 97 122 e (rsc B 32 32 e q))) (rsc B 48 57 e (rsc B 32 32 e (rsc B 97 122 e (rsc B 32 32 e q)))) 0 100
    · rw [(n1 k9).1, (n1 k9).2]
      exact ⟨fun k hk => aset_row _ _ _ hk, fun z => absurd (show (1 : Int32) = 0 from z) (by decide), fun _ => ⟨rfl, rfl, agR_h hx (by decide) (by decide) _ ⟨k9.2.2.1, k9.2.2.2⟩, (by show q + 1 ≤ rsc B 48 57 e (rsc B 32 32 e (rsc B 97 122 e (rsc B 32 32 e q))); omega), hd2⟩⟩
    · rw [(n0 k9).1, (n0 k9).2]
      exact ⟨fun k hk => aset_row _ _ _ hk, fun _ => ⟨nI_m1 (by omega), rfl⟩, fun z => absurd rfl z⟩
  by_cases w6 : rwd B (rsc B 32 32 e q) (rsc B 97 122 e (rsc B 32 32 e q)) 6
  · have hlen := w6.1
    have hl0 := slen_0 6 (by decide)
    rw [rif_0 w3, rif_0 w5, rif_1 w6, if_neg (fun z => w3 ((rwd_T hB (by decide)).mp z)), if_neg (fun z => w5 ((rwd_T hB (by decide)).mp z)), if_pos ((rwd_T hB (by decide)).mpr w6)]
    obtain ⟨n1, n0⟩ := num_r (A := A) (e := e) (r := (rsc B 97 122 e (rsc B 32 32 e q))) (j := 2) (lo := 0) (hi := 100) hB hA
    by_cases k9 : rnok B (rsc B 32 32 e (rsc B 97 122 e (rsc B 32 32 e q))) (rsc B 48 57 e (rsc B 32 32 e (rsc B 97 122 e (rsc B 32 32 e q)))) 0 100
    · rw [(n1 k9).1, (n1 k9).2]
      exact ⟨fun k hk => aset_row _ _ _ hk, fun z => absurd (show (1 : Int32) = 0 from z) (by decide), fun _ => ⟨rfl, rfl, agR_h hx (by decide) (by decide) _ ⟨k9.2.2.1, k9.2.2.2⟩, (by show q + 1 ≤ rsc B 48 57 e (rsc B 32 32 e (rsc B 97 122 e (rsc B 32 32 e q))); omega), hd2⟩⟩
    · rw [(n0 k9).1, (n0 k9).2]
      exact ⟨fun k hk => aset_row _ _ _ hk, fun _ => ⟨nI_m1 (by omega), rfl⟩, fun z => absurd rfl z⟩
  by_cases w7 : rwd B (rsc B 32 32 e q) (rsc B 97 122 e (rsc B 32 32 e q)) 7
  · have hlen := w7.1
    have hl0 := slen_0 7 (by decide)
    have w9 : ¬ rwd B (rsc B 32 32 e q) (rsc B 97 122 e (rsc B 32 32 e q)) 9 := fun z => by have h9 := z.1; rw [hlen] at h9; exact absurd h9 (by decide)
    have w10 : ¬ rwd B (rsc B 32 32 e q) (rsc B 97 122 e (rsc B 32 32 e q)) 10 := fun z => by have h9 := z.1; rw [hlen] at h9; exact absurd h9 (by decide)
    rw [rif_0 w3, rif_0 w5, rif_0 w6, rif_0 w9, rif_0 w10, rif_1 w7, if_neg (fun z => w3 ((rwd_T hB (by decide)).mp z)), if_neg (fun z => w5 ((rwd_T hB (by decide)).mp z)), if_neg (fun z => w6 ((rwd_T hB (by decide)).mp z)), if_pos ((rwd_T hB (by decide)).mpr w7)]
    have erl : rbl A e (rsc B 97 122 e (rsc B 32 32 e q)) = (rsc B 32 32 e (rsc B 97 122 e (rsc B 32 32 e q))) := by show rsc (A 14) 32 32 e _ = _; rw [hA]
    have ern : rnR A e (rsc B 97 122 e (rsc B 32 32 e q)) = (rsc B 48 57 e (rsc B 32 32 e (rsc B 97 122 e (rsc B 32 32 e q)))) := by show rsc (A 14) 48 57 e (rsc (A 14) 32 32 e _) = _; rw [hA]
    unfold rlendS
    rw [erl, ern, show rnok (A 14) = rnok B from by rw [hA]]
    by_cases k9 : rnok B (rsc B 32 32 e (rsc B 97 122 e (rsc B 32 32 e q))) (rsc B 48 57 e (rsc B 32 32 e (rsc B 97 122 e (rsc B 32 32 e q)))) 0 100
    · rw [rif_1 k9, cnum_ok hB k9]
      dsimp only
      have hA3 : rnA A e (rsc B 97 122 e (rsc B 32 32 e q)) 3 = aset A 12 3 (rnv B (rsc B 32 32 e (rsc B 97 122 e (rsc B 32 32 e q))) ((rsc B 48 57 e (rsc B 32 32 e (rsc B 97 122 e (rsc B 32 32 e q)))) - (rsc B 32 32 e (rsc B 97 122 e (rsc B 32 32 e q))))) := by show aset A 12 3 (rnv (A 14) (rsc (A 14) 32 32 e _) (rsc (A 14) 48 57 e (rsc (A 14) 32 32 e _) - rsc (A 14) 32 32 e _)) = _; rw [hA]
      rw [hA3]
      have hvr : 0 ≤ rnv B (rsc B 32 32 e (rsc B 97 122 e (rsc B 32 32 e q))) ((rsc B 48 57 e (rsc B 32 32 e (rsc B 97 122 e (rsc B 32 32 e q)))) - (rsc B 32 32 e (rsc B 97 122 e (rsc B 32 32 e q)))) ∧ rnv B (rsc B 32 32 e (rsc B 97 122 e (rsc B 32 32 e q))) ((rsc B 48 57 e (rsc B 32 32 e (rsc B 97 122 e (rsc B 32 32 e q)))) - (rsc B 32 32 e (rsc B 97 122 e (rsc B 32 32 e q)))) ≤ 100 := ⟨k9.2.2.1, k9.2.2.2⟩
      generalize hv9 : rnv B (rsc B 32 32 e (rsc B 97 122 e (rsc B 32 32 e q))) ((rsc B 48 57 e (rsc B 32 32 e (rsc B 97 122 e (rsc B 32 32 e q)))) - (rsc B 32 32 e (rsc B 97 122 e (rsc B 32 32 e q)))) = v9 at hvr ⊢
      have hA9 : (aset A 12 3 v9) 14 = B := (aset_row _ _ _ (by decide)).trans hA
      have hx9 := agR_h hx (j := 3) (by decide) (by decide) v9 hvr
      have hrow9 : ∀ k, k ≠ 12 → (aset A 12 3 v9) k = A k := fun k hk => aset_row _ _ _ hk
      obtain ⟨A9, hA9e⟩ : ∃ A9, A9 = aset A 12 3 v9 := ⟨_, rfl⟩
      rw [← hA9e] at hA9 hx9 hrow9 ⊢
      have erw3 : rwr A9 e (rsc B 48 57 e (rsc B 32 32 e (rsc B 97 122 e (rsc B 32 32 e q)))) = (rsc B 97 122 e (rsc B 32 32 e (rsc B 48 57 e (rsc B 32 32 e (rsc B 97 122 e (rsc B 32 32 e q)))))) := by show rsc (A9 14) 97 122 e (rsc (A9 14) 32 32 e _) = _; rw [hA9]
      have erb3 : rwb A9 e (rsc B 48 57 e (rsc B 32 32 e (rsc B 97 122 e (rsc B 32 32 e q)))) = (rsc B 32 32 e (rsc B 48 57 e (rsc B 32 32 e (rsc B 97 122 e (rsc B 32 32 e q))))) := by show rsc (A9 14) 32 32 e _ = _; rw [hA9]
      have eri3 : rwi A9 e (rsc B 48 57 e (rsc B 32 32 e (rsc B 97 122 e (rsc B 32 32 e q)))) 8 = rwd B (rsc B 32 32 e (rsc B 48 57 e (rsc B 32 32 e (rsc B 97 122 e (rsc B 32 32 e q))))) (rsc B 97 122 e (rsc B 32 32 e (rsc B 48 57 e (rsc B 32 32 e (rsc B 97 122 e (rsc B 32 32 e q)))))) 8 := by show rwd (A9 14) (rsc (A9 14) 32 32 e _) (rsc (A9 14) 97 122 e (rsc (A9 14) 32 32 e _)) 8 = _; rw [hA9]
      unfold runtS
      rw [erw3, erb3, eri3]
      have h31 : (rsc B 48 57 e (rsc B 32 32 e (rsc B 97 122 e (rsc B 32 32 e q)))) ≤ (rsc B 32 32 e (rsc B 48 57 e (rsc B 32 32 e (rsc B 97 122 e (rsc B 32 32 e q))))) := rsc_ge _ _ _ _ _
      have h32 : (rsc B 32 32 e (rsc B 48 57 e (rsc B 32 32 e (rsc B 97 122 e (rsc B 32 32 e q))))) ≤ (rsc B 97 122 e (rsc B 32 32 e (rsc B 48 57 e (rsc B 32 32 e (rsc B 97 122 e (rsc B 32 32 e q)))))) := rsc_ge _ _ _ _ _
      have h33 : (rsc B 97 122 e (rsc B 32 32 e (rsc B 48 57 e (rsc B 32 32 e (rsc B 97 122 e (rsc B 32 32 e q)))))) ≤ (rsc B 32 32 e (rsc B 97 122 e (rsc B 32 32 e (rsc B 48 57 e (rsc B 32 32 e (rsc B 97 122 e (rsc B 32 32 e q))))))) := rsc_ge _ _ _ _ _
      have h34 : (rsc B 32 32 e (rsc B 97 122 e (rsc B 32 32 e (rsc B 48 57 e (rsc B 32 32 e (rsc B 97 122 e (rsc B 32 32 e q))))))) ≤ (rsc B 48 57 e (rsc B 32 32 e (rsc B 97 122 e (rsc B 32 32 e (rsc B 48 57 e (rsc B 32 32 e (rsc B 97 122 e (rsc B 32 32 e q)))))))) := rsc_ge _ _ _ _ _
      have h41 : (rsc B 32 32 e (rsc B 48 57 e (rsc B 32 32 e (rsc B 97 122 e (rsc B 32 32 e q))))) ≤ e := rsc_le hd2
      have h42 : (rsc B 97 122 e (rsc B 32 32 e (rsc B 48 57 e (rsc B 32 32 e (rsc B 97 122 e (rsc B 32 32 e q)))))) ≤ e := rsc_le h41
      have h43 : (rsc B 32 32 e (rsc B 97 122 e (rsc B 32 32 e (rsc B 48 57 e (rsc B 32 32 e (rsc B 97 122 e (rsc B 32 32 e q))))))) ≤ e := rsc_le h42
      have h44 : (rsc B 48 57 e (rsc B 32 32 e (rsc B 97 122 e (rsc B 32 32 e (rsc B 48 57 e (rsc B 32 32 e (rsc B 97 122 e (rsc B 32 32 e q)))))))) ≤ e := rsc_le h43
      by_cases v8 : rwd B (rsc B 32 32 e (rsc B 48 57 e (rsc B 32 32 e (rsc B 97 122 e (rsc B 32 32 e q))))) (rsc B 97 122 e (rsc B 32 32 e (rsc B 48 57 e (rsc B 32 32 e (rsc B 97 122 e (rsc B 32 32 e q)))))) 8
      · rw [rif_1 v8, cxw_ok hB (by decide) v8]
        dsimp only
        obtain ⟨n1, n0⟩ := num_r (A := A9) (e := e) (r := (rsc B 97 122 e (rsc B 32 32 e (rsc B 48 57 e (rsc B 32 32 e (rsc B 97 122 e (rsc B 32 32 e q))))))) (j := 6) (lo := 0) (hi := 999999) hB hA9
        by_cases l9 : rnok B (rsc B 32 32 e (rsc B 97 122 e (rsc B 32 32 e (rsc B 48 57 e (rsc B 32 32 e (rsc B 97 122 e (rsc B 32 32 e q))))))) (rsc B 48 57 e (rsc B 32 32 e (rsc B 97 122 e (rsc B 32 32 e (rsc B 48 57 e (rsc B 32 32 e (rsc B 97 122 e (rsc B 32 32 e q)))))))) 0 999999
        · rw [(n1 l9).1, (n1 l9).2]
          exact ⟨fun k hk => (aset_row _ _ _ hk).trans (hrow9 k hk), fun z => absurd (show (1 : Int32) = 0 from z) (by decide), fun _ => ⟨rfl, rfl, agR_6 hx9 _, (by show q + 1 ≤ (rsc B 48 57 e (rsc B 32 32 e (rsc B 97 122 e (rsc B 32 32 e (rsc B 48 57 e (rsc B 32 32 e (rsc B 97 122 e (rsc B 32 32 e q)))))))); omega), h44⟩⟩
        · rw [(n0 l9).1, (n0 l9).2]
          exact ⟨fun k hk => (aset_row _ _ _ hk).trans (hrow9 k hk), fun _ => ⟨nI_m1 (by omega), rfl⟩, fun z => absurd rfl z⟩
      · rw [rif_0 v8, cxw_no hB (by decide) v8, cff_m]
        dsimp only
        rw [cnum_ff (nI_m1 (p := (rsc B 32 32 e (rsc B 48 57 e (rsc B 32 32 e (rsc B 97 122 e (rsc B 32 32 e q)))))) (by omega))]
        exact ⟨hrow9, fun _ => ⟨nI_m1 (by omega), rfl⟩, fun z => absurd rfl z⟩
    · rw [rif_0 k9, cnum_no hB k9, cff_m]
      dsimp only
      rw [cnum_ff (by rw [cxw_ff (nI_m1 (p := (rsc B 32 32 e (rsc B 97 122 e (rsc B 32 32 e q)))) (by omega))]; exact nI_m1 (by omega)), cxw_ff (nI_m1 (p := (rsc B 32 32 e (rsc B 97 122 e (rsc B 32 32 e q)))) (by omega))]
      exact ⟨fun k hk => aset_row _ _ _ hk, fun _ => ⟨nI_m1 (by omega), rfl⟩, fun z => absurd rfl z⟩
  by_cases w9 : rwd B (rsc B 32 32 e q) (rsc B 97 122 e (rsc B 32 32 e q)) 9
  · have hlen := w9.1
    have hl0 := slen_0 9 (by decide)
    rw [rif_0 w3, rif_0 w5, rif_0 w6, rif_1 w9, if_neg (fun z => w3 ((rwd_T hB (by decide)).mp z)), if_neg (fun z => w5 ((rwd_T hB (by decide)).mp z)), if_neg (fun z => w6 ((rwd_T hB (by decide)).mp z)), if_neg (fun z => w7 ((rwd_T hB (by decide)).mp z)), if_pos ((rwd_T hB (by decide)).mpr w9)]
    obtain ⟨n1, n0⟩ := num_r (A := A) (e := e) (r := (rsc B 97 122 e (rsc B 32 32 e q))) (j := 4) (lo := 0) (hi := 100) hB hA
    by_cases k9 : rnok B (rsc B 32 32 e (rsc B 97 122 e (rsc B 32 32 e q))) (rsc B 48 57 e (rsc B 32 32 e (rsc B 97 122 e (rsc B 32 32 e q)))) 0 100
    · rw [(n1 k9).1, (n1 k9).2]
      exact ⟨fun k hk => aset_row _ _ _ hk, fun z => absurd (show (1 : Int32) = 0 from z) (by decide), fun _ => ⟨rfl, rfl, agR_h hx (by decide) (by decide) _ ⟨k9.2.2.1, k9.2.2.2⟩, (by show q + 1 ≤ rsc B 48 57 e (rsc B 32 32 e (rsc B 97 122 e (rsc B 32 32 e q))); omega), hd2⟩⟩
    · rw [(n0 k9).1, (n0 k9).2]
      exact ⟨fun k hk => aset_row _ _ _ hk, fun _ => ⟨nI_m1 (by omega), rfl⟩, fun z => absurd rfl z⟩
  by_cases w10 : rwd B (rsc B 32 32 e q) (rsc B 97 122 e (rsc B 32 32 e q)) 10
  · have hlen := w10.1
    have hl0 := slen_0 10 (by decide)
    rw [rif_0 w3, rif_0 w5, rif_0 w6, rif_0 w9, rif_1 w10, if_neg (fun z => w3 ((rwd_T hB (by decide)).mp z)), if_neg (fun z => w5 ((rwd_T hB (by decide)).mp z)), if_neg (fun z => w6 ((rwd_T hB (by decide)).mp z)), if_neg (fun z => w7 ((rwd_T hB (by decide)).mp z)), if_neg (fun z => w9 ((rwd_T hB (by decide)).mp z)), if_pos ((rwd_T hB (by decide)).mpr w10)]
    obtain ⟨n1, n0⟩ := num_r (A := A) (e := e) (r := (rsc B 97 122 e (rsc B 32 32 e q))) (j := 5) (lo := 0) (hi := 100) hB hA
    by_cases k9 : rnok B (rsc B 32 32 e (rsc B 97 122 e (rsc B 32 32 e q))) (rsc B 48 57 e (rsc B 32 32 e (rsc B 97 122 e (rsc B 32 32 e q)))) 0 100
    · rw [(n1 k9).1, (n1 k9).2]
      exact ⟨fun k hk => aset_row _ _ _ hk, fun z => absurd (show (1 : Int32) = 0 from z) (by decide), fun _ => ⟨rfl, rfl, agR_h hx (by decide) (by decide) _ ⟨k9.2.2.1, k9.2.2.2⟩, (by show q + 1 ≤ rsc B 48 57 e (rsc B 32 32 e (rsc B 97 122 e (rsc B 32 32 e q))); omega), hd2⟩⟩
    · rw [(n0 k9).1, (n0 k9).2]
      exact ⟨fun k hk => aset_row _ _ _ hk, fun _ => ⟨nI_m1 (by omega), rfl⟩, fun z => absurd rfl z⟩
  rw [rif_0 w3, rif_0 w5, rif_0 w6, rif_0 w9, rif_0 w10, rif_0 w7, if_neg (fun z => w3 ((rwd_T hB (by decide)).mp z)), if_neg (fun z => w5 ((rwd_T hB (by decide)).mp z)), if_neg (fun z => w6 ((rwd_T hB (by decide)).mp z)), if_neg (fun z => w7 ((rwd_T hB (by decide)).mp z)), if_neg (fun z => w9 ((rwd_T hB (by decide)).mp z)), if_neg (fun z => w10 ((rwd_T hB (by decide)).mp z)), cff_m]
  exact ⟨fun k hk => rfl, fun _ => ⟨nI_m1 (by omega), rfl⟩, fun z => absurd rfl z⟩
