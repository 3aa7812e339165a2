theorem room {K : Cx} {fr0 lo0 mc0 ms0 : Nat} (hR : kR K = rmk fr0 lo0 mc0 ms0) {cs ss fr lo mc ms maxL : Nat} {rest : List Value} (h : (Nat.ble (fr + 1) fr0 && Nat.ble (8 + (maxL + 11) + lo) lo0 && Nat.ble (cs + mc) mc0 && Nat.ble (ss + ms) ms0 && Nat.ble ((rest.map fun v => v.category).sum) 8) = true) : roomOK K cs ss fr lo mc ms maxL rest := by
  simp only [Bool.and_eq_true, Nat.ble_eq] at h
  obtain ⟨⟨⟨⟨h1, h2⟩, h3⟩, h4⟩, h5⟩ := h
  unfold roomOK
  rw [hR]
  exact ⟨h1, h2, h3, h4, h5⟩
theorem roomM {K : Cx} {fr0 lo0 mc0 ms0 : Nat} (hR : kR K = rmk fr0 lo0 mc0 ms0) {cs ss : Nat} {rest : List Value} (h : (Nat.ble 1 fr0 && Nat.ble ((rest.map fun v => v.category).sum + 13) lo0 && Nat.ble cs mc0 && Nat.ble ss ms0) = true) : 1 ≤ (kR K).frames ∧ (rest.map fun v => v.category).sum + 13 ≤ (kR K).locals ∧ cs ≤ (kR K).cells ∧ ss ≤ (kR K).slots := by
  simp only [Bool.and_eq_true, Nat.ble_eq] at h
  rw [hR]
  exact ⟨h.1.1.1, h.1.1.2, h.1.2, h.2⟩
theorem roomF {K : Cx} {fr0 lo0 mc0 ms0 : Nat} (hR : kR K = rmk fr0 lo0 mc0 ms0) (h : Nat.ble 1 fr0 = true) : 1 ≤ (kR K).frames := by
  rw [hR]; exact Nat.ble_eq.mp h
theorem roomL {K : Cx} {fr0 lo0 mc0 ms0 : Nat} (hR : kR K = rmk fr0 lo0 mc0 ms0) {rest : List Value} (h : Nat.ble ((rest.map fun v => v.category).sum + 12) lo0 = true) : (rest.map fun v => v.category).sum + 12 ≤ (kR K).locals := by
  rw [hR]; exact Nat.ble_eq.mp h
theorem roomC {K : Cx} {fr0 lo0 mc0 ms0 : Nat} (hR : kR K = rmk fr0 lo0 mc0 ms0) {n : Nat} (h : Nat.ble n mc0 = true) : n ≤ (kR K).cells := by
  rw [hR]; exact Nat.ble_eq.mp h
theorem roomS {K : Cx} {fr0 lo0 mc0 ms0 : Nat} (hR : kR K = rmk fr0 lo0 mc0 ms0) {n : Nat} (h : Nat.ble n ms0 = true) : n ≤ (kR K).slots := by
  rw [hR]; exact Nat.ble_eq.mp h
theorem roomT {K : Cx} {fr0 lo0 mc0 ms0 : Nat} (hR : kR K = rmk fr0 lo0 mc0 ms0) {cs ss k mc ms : Nat} {rest : List Value} (h : (Nat.ble (k + 4) fr0 && Nat.ble ((rest.map fun v => v.category).sum + (13 * (k + 1) + 43)) lo0 && Nat.ble (cs + 1) mc0 && Nat.ble (ss + 6) ms0 && Nat.ble (cs + 1) mc && Nat.ble (ss + 6) ms) = true) : k + 3 < (kR K).frames ∧ (rest.map fun v => v.category).sum + (13 * (k + 1) + 43) ≤ (kR K).locals ∧ cs + 1 ≤ (kR K).cells ∧ ss + 6 ≤ (kR K).slots ∧ cs + 1 ≤ mc ∧ ss + 6 ≤ ms := by
  simp only [Bool.and_eq_true, Nat.ble_eq] at h
  rw [hR]
  exact ⟨h.1.1.1.1.1, h.1.1.1.1.2, h.1.1.1.2, h.1.1.2, h.1.2, h.2⟩
theorem g_case {K : Cx} {E : Ev} {nL : Nat} {Q : State → Prop} {cs ss pc : Nat} {lv : List (Nat × Value)} {st : List Value} {h : AH} {x : Int32} (v : Int32) (kt : x = v → G K E nL Q cs ss pc lv (.int v :: st) h) (kf : ¬ x = v → G K E nL Q cs ss pc lv (.int x :: st) h) : G K E nL Q cs ss pc lv (.int x :: st) h := by
  by_cases q : x = v
  · have k := kt q
    rw [← q] at k
    exact k
  · exact kf q
theorem g_neI {x v : Int32} (h : ¬ x = v) {z : Int} (hz : v.toInt = z) : x.toInt ≠ z := fun q => h (Int32.toInt_inj.mp (q.trans hz.symm))
def imax (x y : Int32) : Int32 := if x < y then y else x
def imin (x y : Int32) : Int32 := if y < x then y else x
def iabs (x : Int32) : Int32 := if 0 ≤ x then x else 0 - x
def b2i (c : Prop) [Decidable c] : Int32 := if c then 1 else 0
theorem g_tout6 {x : Int32} (h0 : ¬ x = 0) (h1 : ¬ x = 1) (h2 : ¬ x = 2) (h3 : ¬ x = 3) (h4 : ¬ x = 4) (h5 : ¬ x = 5) : x.toInt < 0 ∨ 5 < x.toInt := by
  have q0 := g_neI h0 (z := 0) (by decide)
  have q1 := g_neI h1 (z := 1) (by decide)
  have q2 := g_neI h2 (z := 2) (by decide)
  have q3 := g_neI h3 (z := 3) (by decide)
  have q4 := g_neI h4 (z := 4) (by decide)
  have q5 := g_neI h5 (z := 5) (by decide)
  omega
theorem g_tout10 {x : Int32} (h0 : ¬ x = 0) (h1 : ¬ x = 1) (h2 : ¬ x = 2) (h3 : ¬ x = 3) (h4 : ¬ x = 4) (h5 : ¬ x = 5) (h6 : ¬ x = 6) (h7 : ¬ x = 7) (h8 : ¬ x = 8) (h9 : ¬ x = 9) : x.toInt < 0 ∨ 9 < x.toInt := by
  have q0 := g_neI h0 (z := 0) (by decide)
  have q1 := g_neI h1 (z := 1) (by decide)
  have q2 := g_neI h2 (z := 2) (by decide)
  have q3 := g_neI h3 (z := 3) (by decide)
  have q4 := g_neI h4 (z := 4) (by decide)
  have q5 := g_neI h5 (z := 5) (by decide)
  have q6 := g_neI h6 (z := 6) (by decide)
  have q7 := g_neI h7 (z := 7) (by decide)
  have q8 := g_neI h8 (z := 8) (by decide)
  have q9 := g_neI h9 (z := 9) (by decide)
  omega
theorem g_tout15 {x : Int32} (h0 : ¬ x = 0) (h1 : ¬ x = 1) (h2 : ¬ x = 2) (h3 : ¬ x = 3) (h4 : ¬ x = 4) (h5 : ¬ x = 5) (h6 : ¬ x = 6) (h7 : ¬ x = 7) (h8 : ¬ x = 8) (h9 : ¬ x = 9) (h10 : ¬ x = 10) (h11 : ¬ x = 11) (h12 : ¬ x = 12) (h13 : ¬ x = 13) (h14 : ¬ x = 14) : x.toInt < 0 ∨ 14 < x.toInt := by
  have q0 := g_neI h0 (z := 0) (by decide)
  have q1 := g_neI h1 (z := 1) (by decide)
  have q2 := g_neI h2 (z := 2) (by decide)
  have q3 := g_neI h3 (z := 3) (by decide)
  have q4 := g_neI h4 (z := 4) (by decide)
  have q5 := g_neI h5 (z := 5) (by decide)
  have q6 := g_neI h6 (z := 6) (by decide)
  have q7 := g_neI h7 (z := 7) (by decide)
  have q8 := g_neI h8 (z := 8) (by decide)
  have q9 := g_neI h9 (z := 9) (by decide)
  have q10 := g_neI h10 (z := 10) (by decide)
  have q11 := g_neI h11 (z := 11) (by decide)
  have q12 := g_neI h12 (z := 12) (by decide)
  have q13 := g_neI h13 (z := 13) (by decide)
  have q14 := g_neI h14 (z := 14) (by decide)
  omega
theorem g_tout23 {x : Int32} (h0 : ¬ x = 0) (h1 : ¬ x = 1) (h2 : ¬ x = 2) (h3 : ¬ x = 3) (h4 : ¬ x = 4) (h5 : ¬ x = 5) (h6 : ¬ x = 6) (h7 : ¬ x = 7) (h8 : ¬ x = 8) (h9 : ¬ x = 9) (h10 : ¬ x = 10) (h11 : ¬ x = 11) (h12 : ¬ x = 12) (h13 : ¬ x = 13) (h14 : ¬ x = 14) (h15 : ¬ x = 15) (h16 : ¬ x = 16) (h17 : ¬ x = 17) (h18 : ¬ x = 18) (h19 : ¬ x = 19) (h20 : ¬ x = 20) (h21 : ¬ x = 21) (h22 : ¬ x = 22) : x.toInt < 0 ∨ 22 < x.toInt := by
  have q0 := g_neI h0 (z := 0) (by decide)
  have q1 := g_neI h1 (z := 1) (by decide)
  have q2 := g_neI h2 (z := 2) (by decide)
  have q3 := g_neI h3 (z := 3) (by decide)
  have q4 := g_neI h4 (z := 4) (by decide)
  have q5 := g_neI h5 (z := 5) (by decide)
  have q6 := g_neI h6 (z := 6) (by decide)
  have q7 := g_neI h7 (z := 7) (by decide)
  have q8 := g_neI h8 (z := 8) (by decide)
  have q9 := g_neI h9 (z := 9) (by decide)
  have q10 := g_neI h10 (z := 10) (by decide)
  have q11 := g_neI h11 (z := 11) (by decide)
  have q12 := g_neI h12 (z := 12) (by decide)
  have q13 := g_neI h13 (z := 13) (by decide)
  have q14 := g_neI h14 (z := 14) (by decide)
  have q15 := g_neI h15 (z := 15) (by decide)
  have q16 := g_neI h16 (z := 16) (by decide)
  have q17 := g_neI h17 (z := 17) (by decide)
  have q18 := g_neI h18 (z := 18) (by decide)
  have q19 := g_neI h19 (z := 19) (by decide)
  have q20 := g_neI h20 (z := 20) (by decide)
  have q21 := g_neI h21 (z := 21) (by decide)
  have q22 := g_neI h22 (z := 22) (by decide)
  omega
theorem mwM_max : mwM Lib.Math.max.name Lib.Math.max.code 2 := ⟨w_324, w_53, w_325⟩
theorem mwM_min : mwM Lib.Math.min.name Lib.Math.min.code 2 := ⟨w_500, w_53, w_501⟩
theorem mwM_abs : mwM Lib.Math.abs.name Lib.Math.abs.code 1 := ⟨w_321, w_53, w_322⟩
theorem t_76 : (.methodLinkNest "GemPits" 9 ⟨"GemPits$Tape", "<init>", "()V"⟩ "GemPits" : Cond) ∈ TW := twm 76 (by decide +kernel) (by decide +kernel)
theorem t_122 : (.methodLinkNest "GemPits$Ground" 27 ⟨"GemPits$Law", "<init>", "()V"⟩ "GemPits" : Cond) ∈ TW := twm 122 (by decide +kernel) (by decide +kernel)
theorem t_125 : (.methodLinkNest "GemPits$Law" 1 ⟨"GemPits$Clauses", "<init>", "()V"⟩ "GemPits" : Cond) ∈ TW := twm 125 (by decide +kernel) (by decide +kernel)
theorem t_167 : (.methodLinkNest "GemPits" 25 ⟨"GemPits$Market", "<init>", "()V"⟩ "GemPits" : Cond) ∈ TW := twm 167 (by decide +kernel) (by decide +kernel)
theorem t_175 : (.methodLinkNest "GemPits$Market" 24 ⟨"GemPits$Agreement", "<init>", "()V"⟩ "GemPits" : Cond) ∈ TW := twm 175 (by decide +kernel) (by decide +kernel)
theorem t_178 : (.methodLinkNest "GemPits$Agreement" 3 ⟨"GemPits$Clauses", "<init>", "()V"⟩ "GemPits" : Cond) ∈ TW := twm 178 (by decide +kernel) (by decide +kernel)
theorem t_207 : (.methodLinkNest "GemPits" 32 ⟨"GemPits$Rough", "<init>", "()V"⟩ "GemPits" : Cond) ∈ TW := twm 207 (by decide +kernel) (by decide +kernel)
theorem t_335 : (.privateMethod ⟨"GemPits$Rough", "weighAll", "()V"⟩ : Cond) ∈ TW := twm 335 (by decide +kernel) (by decide +kernel)
theorem t_339 : (.privateMethod ⟨"GemPits$Rough", "weigh", "(IIII)V"⟩ : Cond) ∈ TW := twm 339 (by decide +kernel) (by decide +kernel)
theorem t_349 : (.privateMethod ⟨"GemPits$Rough", "isClear", "(IIII)Z"⟩ : Cond) ∈ TW := twm 349 (by decide +kernel) (by decide +kernel)
theorem t_353 : (.privateMethod ⟨"GemPits$Rough", "tryCut", "(III)V"⟩ : Cond) ∈ TW := twm 353 (by decide +kernel) (by decide +kernel)
theorem t_424 : (.castable "java/lang/IllegalArgumentException" "java/lang/IllegalArgumentException" : Cond) ∈ TW := twm 424 (by decide +kernel) (by decide +kernel)
theorem t_425 : (.declares ⟨"java/lang/RuntimeException", "<init>", "()V"⟩ : Cond) ∈ TW := twm 425 (by decide +kernel) (by decide +kernel)
theorem t_426 : (.declares ⟨"java/lang/RuntimeException", "<init>", "(Ljava/lang/String;)V"⟩ : Cond) ∈ TW := twm 426 (by decide +kernel) (by decide +kernel)
theorem t_427 : (.declares ⟨"java/lang/Exception", "<init>", "()V"⟩ : Cond) ∈ TW := twm 427 (by decide +kernel) (by decide +kernel)
theorem t_428 : (.declares ⟨"java/lang/Exception", "<init>", "(Ljava/lang/String;)V"⟩ : Cond) ∈ TW := twm 428 (by decide +kernel) (by decide +kernel)
theorem t_429 : (.declares ⟨"java/lang/Throwable", "<init>", "()V"⟩ : Cond) ∈ TW := twm 429 (by decide +kernel) (by decide +kernel)
theorem t_430 : (.declares ⟨"java/lang/Throwable", "<init>", "(Ljava/lang/String;)V"⟩ : Cond) ∈ TW := twm 430 (by decide +kernel) (by decide +kernel)
theorem t_461 : (.privateMethod ⟨"java/lang/Throwable", "fillInStackTrace", "(I)Ljava/lang/Throwable;"⟩ : Cond) ∈ TW := twm 461 (by decide +kernel) (by decide +kernel)
theorem t_496 : (.privateMethod ⟨"GemPits$Ground", "narrowSpans", "(LGemPits$Pit;)V"⟩ : Cond) ∈ TW := twm 496 (by decide +kernel) (by decide +kernel)
theorem t_520 : (.privateMethod ⟨"GemPits", "readTape", "(LGemPits$Clauses;)I"⟩ : Cond) ∈ TW := twm 520 (by decide +kernel) (by decide +kernel)
theorem t_530 : (.privateMethod ⟨"GemPits$Reader", "goOnFrom", "(I)V"⟩ : Cond) ∈ TW := twm 530 (by decide +kernel) (by decide +kernel)
theorem t_555 : (.declares ⟨"GemPits$Clauses", "readClause", "(LGemPits$Reader;)V"⟩ : Cond) ∈ TW := twm 555 (by decide +kernel) (by decide +kernel)
theorem t_658 : (.privateMethod ⟨"GemPits$Clauses", "finish", "(LGemPits$Reader;)V"⟩ : Cond) ∈ TW := twm 658 (by decide +kernel) (by decide +kernel)
theorem t_666 : (.declares ⟨"GemPits$Clauses", "agrees", "()Z"⟩ : Cond) ∈ TW := twm 666 (by decide +kernel) (by decide +kernel)
theorem t_689 : (.methodLinkNest "GemPits" 88 ⟨"GemPits$Agreement", "<init>", "()V"⟩ "GemPits" : Cond) ∈ TW := twm 689 (by decide +kernel) (by decide +kernel)
theorem t_709 : (.castable "java/lang/IndexOutOfBoundsException" "java/lang/IndexOutOfBoundsException" : Cond) ∈ TW := twm 709 (by decide +kernel) (by decide +kernel)
theorem t_725 : (.castable "java/lang/UnsupportedOperationException" "java/lang/UnsupportedOperationException" : Cond) ∈ TW := twm 725 (by decide +kernel) (by decide +kernel)
theorem t_781 : (.privateMethod ⟨"java/util/ArrayList", "add", "(Ljava/lang/Object;[Ljava/lang/Object;I)V"⟩ : Cond) ∈ TW := twm 781 (by decide +kernel) (by decide +kernel)
theorem t_785 : (.privateMethod ⟨"java/util/ArrayList", "grow", "()[Ljava/lang/Object;"⟩ : Cond) ∈ TW := twm 785 (by decide +kernel) (by decide +kernel)
theorem t_789 : (.privateMethod ⟨"java/util/ArrayList", "grow", "(I)[Ljava/lang/Object;"⟩ : Cond) ∈ TW := twm 789 (by decide +kernel) (by decide +kernel)
theorem t_844 : (.privateMethod ⟨"GemPits", "pitOf", "(I)LGemPits$Pit;"⟩ : Cond) ∈ TW := twm 844 (by decide +kernel) (by decide +kernel)
theorem t_907 : (.castable "java/util/NoSuchElementException" "java/util/NoSuchElementException" : Cond) ∈ TW := twm 907 (by decide +kernel) (by decide +kernel)
theorem t_932 : (.castable "java/lang/IllegalStateException" "java/lang/IllegalStateException" : Cond) ∈ TW := twm 932 (by decide +kernel) (by decide +kernel)
theorem t_1009 : (.privateMethod ⟨"GemPits", "stoneOf", "(I)LGemPits$Stone;"⟩ : Cond) ∈ TW := twm 1009 (by decide +kernel) (by decide +kernel)
theorem t_1055 : (.privateMethod ⟨"GemPits$Agreement", "shareOf", "(II)I"⟩ : Cond) ∈ TW := twm 1055 (by decide +kernel) (by decide +kernel)
theorem t_1211 : (.privateMethod ⟨"GemPitsModel", "readAll", "(Z)I"⟩ : Cond) ∈ TW := twm 1211 (by decide +kernel) (by decide +kernel)
theorem t_1215 : (.privateMethod ⟨"GemPitsModel", "readTerm", "()Z"⟩ : Cond) ∈ TW := twm 1215 (by decide +kernel) (by decide +kernel)
theorem t_1219 : (.privateMethod ⟨"GemPitsModel", "word", "()V"⟩ : Cond) ∈ TW := twm 1219 (by decide +kernel) (by decide +kernel)
theorem t_1223 : (.privateMethod ⟨"GemPitsModel", "blanks", "()V"⟩ : Cond) ∈ TW := twm 1223 (by decide +kernel) (by decide +kernel)
theorem t_1227 : (.privateMethod ⟨"GemPitsModel", "isAt", "(II)Z"⟩ : Cond) ∈ TW := twm 1227 (by decide +kernel) (by decide +kernel)
theorem t_1232 : (.privateMethod ⟨"GemPitsModel", "isWord", "(Ljava/lang/String;)Z"⟩ : Cond) ∈ TW := twm 1232 (by decide +kernel) (by decide +kernel)
theorem t_1238 : (.privateMethod ⟨"GemPitsModel", "number", "(III)Z"⟩ : Cond) ∈ TW := twm 1238 (by decide +kernel) (by decide +kernel)
theorem t_1245 : (.privateMethod ⟨"GemPitsModel", "readPart", "()Z"⟩ : Cond) ∈ TW := twm 1245 (by decide +kernel) (by decide +kernel)
theorem t_1258 : (.privateMethod ⟨"GemPitsModel", "throwsIf", "(ZI)Z"⟩ : Cond) ∈ TW := twm 1258 (by decide +kernel) (by decide +kernel)
theorem t_1284 : (.privateMethod ⟨"GemPitsModel", "mayBeSunk", "(I)Z"⟩ : Cond) ∈ TW := twm 1284 (by decide +kernel) (by decide +kernel)
theorem t_1297 : (.privateMethod ⟨"GemPitsModel", "noPit", "(I)Z"⟩ : Cond) ∈ TW := twm 1297 (by decide +kernel) (by decide +kernel)
theorem t_1314 : (.privateMethod ⟨"GemPitsModel", "low", "(I)I"⟩ : Cond) ∈ TW := twm 1314 (by decide +kernel) (by decide +kernel)
theorem t_1318 : (.privateMethod ⟨"GemPitsModel", "high", "(I)I"⟩ : Cond) ∈ TW := twm 1318 (by decide +kernel) (by decide +kernel)
theorem t_1330 : (.privateMethod ⟨"GemPitsModel", "bondOf", "(I)I"⟩ : Cond) ∈ TW := twm 1330 (by decide +kernel) (by decide +kernel)
theorem t_1347 : (.privateMethod ⟨"GemPitsModel", "noStone", "(I)Z"⟩ : Cond) ∈ TW := twm 1347 (by decide +kernel) (by decide +kernel)
theorem t_1356 : (.privateMethod ⟨"GemPitsModel", "parts", "(II)V"⟩ : Cond) ∈ TW := twm 1356 (by decide +kernel) (by decide +kernel)
theorem t_1376 : (.privateMethod ⟨"GemPitsModel", "weighs", "()V"⟩ : Cond) ∈ TW := twm 1376 (by decide +kernel) (by decide +kernel)
theorem t_1383 : (.privateMethod ⟨"GemPitsModel", "isClear", "(IIII)Z"⟩ : Cond) ∈ TW := twm 1383 (by decide +kernel) (by decide +kernel)
theorem t_1387 : (.privateMethod ⟨"GemPitsModel", "better", "(III)V"⟩ : Cond) ∈ TW := twm 1387 (by decide +kernel) (by decide +kernel)
theorem t_1401 : (.castable "GemPits" "java/lang/Object" : Cond) ∈ TW := twm 1401 (by decide +kernel) (by decide +kernel)
theorem t_1402 : (.castable "GemPits$Tape" "java/lang/Object" : Cond) ∈ TW := twm 1402 (by decide +kernel) (by decide +kernel)
theorem t_1403 : (.castable "GemPits$Ground" "java/lang/Object" : Cond) ∈ TW := twm 1403 (by decide +kernel) (by decide +kernel)
theorem t_1404 : (.castable "java/util/ArrayList" "java/lang/Object" : Cond) ∈ TW := twm 1404 (by decide +kernel) (by decide +kernel)
theorem t_1405 : (.castable "GemPits$Law" "java/lang/Object" : Cond) ∈ TW := twm 1405 (by decide +kernel) (by decide +kernel)
theorem t_1406 : (.castable "GemPits$Market" "java/lang/Object" : Cond) ∈ TW := twm 1406 (by decide +kernel) (by decide +kernel)
theorem t_1407 : (.castable "GemPits$Agreement" "java/lang/Object" : Cond) ∈ TW := twm 1407 (by decide +kernel) (by decide +kernel)
theorem t_1408 : (.castable "GemPits$Rough" "java/lang/Object" : Cond) ∈ TW := twm 1408 (by decide +kernel) (by decide +kernel)
theorem t_1409 : (.castable "GemPitsModel" "java/lang/Object" : Cond) ∈ TW := twm 1409 (by decide +kernel) (by decide +kernel)
theorem t_1410 : (.castable "java/lang/IllegalArgumentException" "java/lang/Object" : Cond) ∈ TW := twm 1410 (by decide +kernel) (by decide +kernel)
theorem t_1411 : (.castable "GemPits$Reader" "java/lang/Object" : Cond) ∈ TW := twm 1411 (by decide +kernel) (by decide +kernel)
theorem t_1412 : (.castable "java/lang/IndexOutOfBoundsException" "java/lang/Object" : Cond) ∈ TW := twm 1412 (by decide +kernel) (by decide +kernel)
theorem t_1413 : (.castable "java/lang/UnsupportedOperationException" "java/lang/Object" : Cond) ∈ TW := twm 1413 (by decide +kernel) (by decide +kernel)
theorem t_1414 : (.castable "GemPits$Pit" "java/lang/Object" : Cond) ∈ TW := twm 1414 (by decide +kernel) (by decide +kernel)
theorem t_1415 : (.castable "java/util/NoSuchElementException" "java/lang/Object" : Cond) ∈ TW := twm 1415 (by decide +kernel) (by decide +kernel)
theorem t_1416 : (.castable "java/lang/IllegalStateException" "java/lang/Object" : Cond) ∈ TW := twm 1416 (by decide +kernel) (by decide +kernel)
theorem t_1417 : (.castable "GemPits$Stone" "java/lang/Object" : Cond) ∈ TW := twm 1417 (by decide +kernel) (by decide +kernel)
theorem t_1418 : (.castable "java/lang/Throwable" "java/lang/Object" : Cond) ∈ TW := twm 1418 (by decide +kernel) (by decide +kernel)
theorem t_1419 : (.castable "java/lang/String" "java/lang/Object" : Cond) ∈ TW := twm 1419 (by decide +kernel) (by decide +kernel)
theorem t_1422 : (.declares ⟨"java/lang/Object", "getClass", "()Ljava/lang/Class;"⟩ : Cond) ∈ TW := twm 1422 (by decide +kernel) (by decide +kernel)
theorem t_1423 : (.castable "[B" "java/lang/Object" : Cond) ∈ TW := twm 1423 (by decide +kernel) (by decide +kernel)
theorem t_1424 : (.castable "[I" "java/lang/Object" : Cond) ∈ TW := twm 1424 (by decide +kernel) (by decide +kernel)
theorem t_1425 : (.castable "[Z" "java/lang/Object" : Cond) ∈ TW := twm 1425 (by decide +kernel) (by decide +kernel)
theorem t_1426 : (.castable "[Ljava/lang/Object;" "java/lang/Object" : Cond) ∈ TW := twm 1426 (by decide +kernel) (by decide +kernel)
theorem t_1427 : (.castable "[J" "java/lang/Object" : Cond) ∈ TW := twm 1427 (by decide +kernel) (by decide +kernel)
theorem inJx4a65c : ∀ w ∈ u_ws RJx4a65c TJx4a65c 3, w ∈ GW := by decide +kernel
theorem inX0 : ∀ w ∈ u_ws RX0 TX0 3, w ∈ GW := by decide +kernel
theorem inX2 : ∀ w ∈ u_ws RX2 TX2 6, w ∈ GW := by decide +kernel
theorem inX3 : ∀ w ∈ u_ws RX3 TX3 3, w ∈ GW := by decide +kernel
theorem inX4 : ∀ w ∈ u_ws RX4 TX4 5, w ∈ GW := by decide +kernel
theorem inX5 : ∀ w ∈ u_ws RX5 TX5 6, w ∈ GW := by decide +kernel
theorem inX6 : ∀ w ∈ u_ws RX6 TX6 3, w ∈ GW := by decide +kernel
theorem inX7 : ∀ w ∈ u_ws RX7 TX7 7, w ∈ GW := by decide +kernel
theorem inX8 : ∀ w ∈ u_ws RX8 TX8 6, w ∈ GW := by decide +kernel
theorem inX9 : ∀ w ∈ u_ws RX9 TX9 2, w ∈ GW := by decide +kernel
theorem inX10 : ∀ w ∈ u_ws RX10 TX10 5, w ∈ GW := by decide +kernel
theorem inX11 : ∀ w ∈ u_ws RX11 TX11 31, w ∈ GW := by decide +kernel
theorem mw_X0_init : mwI yX0_init cX0_init 1 0 := ⟨w_176, w_44, w_177, rfl, by decide, by decide, by decide +kernel⟩
theorem mw_X0_partPrice : mwV yX0_partPrice cX0_partPrice 7 none 4 := ⟨w_1049, w_1050, w_44, w_1051, by decide, by decide, by decide +kernel⟩
theorem mw_X0_shareOf : mwV yX0_shareOf cX0_shareOf 3 (some .int) 2 := ⟨w_1056, w_13, w_44, w_1057, by decide, by decide, by decide +kernel⟩
theorem mw_X1_init : mwI yX1_init cX1_init 1 0 := ⟨w_126, w_40, w_127, rfl, by decide, by decide, by decide +kernel⟩
theorem mw_X2_init : mwI yX2_init cX2_init 1 0 := ⟨w_91, w_36, w_92, rfl, by decide, by decide, by decide +kernel⟩
theorem mw_X2_lawNow : mwV yX2_lawNow cX2_lawNow 1 (some (.object "GemPits$Law")) 0 := ⟨w_510, w_511, w_36, w_512, by decide, by decide, by decide +kernel⟩
theorem mw_X2_setLaw : mwV yX2_setLaw cX2_setLaw 2 none 1 := ⟨w_678, w_679, w_36, w_680, by decide, by decide, by decide +kernel⟩
theorem mw_X2_setStep : mwV yX2_setStep cX2_setStep 3 none 1 := ⟨w_492, w_493, w_36, w_494, by decide, by decide, by decide +kernel⟩
theorem mw_X2_today : mwV yX2_today cX2_today 1 (some .int) 0 := ⟨w_369, w_370, w_36, w_371, by decide, by decide, by decide +kernel⟩
theorem mw_X2_passDays : mwV yX2_passDays cX2_passDays 2 none 1 := ⟨w_877, w_878, w_36, w_879, by decide, by decide, by decide +kernel⟩
theorem mw_X2_pits : mwV yX2_pits cX2_pits 1 (some .int) 0 := ⟨w_373, w_374, w_36, w_375, by decide, by decide, by decide +kernel⟩
theorem mw_X2_pitAt : mwV yX2_pitAt cX2_pitAt 2 (some (.object "GemPits$Pit")) 1 := ⟨w_849, w_850, w_36, w_851, by decide, by decide, by decide +kernel⟩
theorem mw_X2_maySink : mwV yX2_maySink cX2_maySink 4 (some .boolean) 1 := ⟨w_291, w_292, w_36, w_293, by decide, by decide, by decide +kernel⟩
theorem mw_X2_sinkAt : mwV yX2_sinkAt cX2_sinkAt 2 (some .int) 1 := ⟨w_741, w_742, w_36, w_743, by decide, by decide, by decide +kernel⟩
theorem mw_X2_tellFound : mwV yX2_tellFound cX2_tellFound 3 (some .boolean) 2 := ⟨w_854, w_855, w_36, w_856, by decide, by decide, by decide +kernel⟩
theorem mw_X2_leastAt : mwV yX2_leastAt cX2_leastAt 2 (some .int) 1 := ⟨w_893, w_894, w_36, w_895, by decide, by decide, by decide +kernel⟩
theorem mw_X2_greatestAt : mwV yX2_greatestAt cX2_greatestAt 2 (some .int) 1 := ⟨w_889, w_890, w_36, w_891, by decide, by decide, by decide +kernel⟩
theorem mw_X2_hasSpan : mwV yX2_hasSpan cX2_hasSpan 2 (some .boolean) 1 := ⟨w_287, w_288, w_36, w_289, by decide, by decide, by decide +kernel⟩
theorem mw_X2_bestSquare : mwV yX2_bestSquare cX2_bestSquare 7 (some .int) 0 := ⟨w_283, w_284, w_36, w_285, by decide, by decide, by decide +kernel⟩
theorem mw_X2_squaresOfOneAmount : mwV yX2_squaresOfOneAmount cX2_squaresOfOneAmount 3 (some .int) 0 := ⟨w_407, w_408, w_36, w_409, by decide, by decide, by decide +kernel⟩
theorem mw_X2_squaresWithoutSpan : mwV yX2_squaresWithoutSpan cX2_squaresWithoutSpan 3 (some .int) 0 := ⟨w_411, w_412, w_36, w_413, by decide, by decide, by decide +kernel⟩
theorem mw_X2_openPits : mwV yX2_openPits cX2_openPits 3 (some .int) 0 := ⟨w_377, w_378, w_36, w_379, by decide, by decide, by decide +kernel⟩
theorem mw_X2_bonds : mwV yX2_bonds cX2_bonds 5 (some .int) 1 := ⟨w_398, w_399, w_36, w_400, by decide, by decide, by decide +kernel⟩
theorem mw_X2_narrowSpans : mwV yX2_narrowSpans cX2_narrowSpans 4 none 1 := ⟨w_497, w_5, w_36, w_498, by decide, by decide, by decide +kernel⟩
theorem mw_X2_stepsApart : mwS yX2_stepsApart cX2_stepsApart 4 (some .int) 2 := ⟨w_318, w_36, w_319, by decide, by decide, by decide +kernel⟩
theorem mw_X3_init : mwI yX3_init cX3_init 1 0 := ⟨w_123, w_41, w_124, rfl, by decide, by decide, by decide +kernel⟩
theorem mw_X3_copy : mwV yX3_copy cX3_copy 2 (some (.object "GemPits$Law")) 0 := ⟨w_514, w_515, w_41, w_516, by decide, by decide, by decide +kernel⟩
theorem mw_X4_init : mwI yX4_init cX4_init 1 0 := ⟨w_168, w_43, w_169, rfl, by decide, by decide, by decide +kernel⟩
theorem mw_X4_setAgreement : mwV yX4_setAgreement cX4_setAgreement 2 none 1 := ⟨w_692, w_693, w_43, w_694, by decide, by decide, by decide +kernel⟩
theorem mw_X4_stones : mwV yX4_stones cX4_stones 1 (some .int) 0 := ⟨w_381, w_382, w_43, w_383, by decide, by decide, by decide +kernel⟩
theorem mw_X4_stoneAt : mwV yX4_stoneAt cX4_stoneAt 2 (some (.object "GemPits$Stone")) 1 := ⟨w_1014, w_1015, w_43, w_1016, by decide, by decide, by decide +kernel⟩
theorem mw_X4_addStone : mwV yX4_addStone cX4_addStone 3 (some .int) 2 := ⟨w_948, w_949, w_43, w_950, by decide, by decide, by decide +kernel⟩
theorem mw_X4_sold : mwV yX4_sold cX4_sold 1 (some .int) 0 := ⟨w_386, w_387, w_43, w_388, by decide, by decide, by decide +kernel⟩
theorem mw_X4_costs : mwV yX4_costs cX4_costs 1 (some .int) 0 := ⟨w_390, w_391, w_43, w_392, by decide, by decide, by decide +kernel⟩
theorem mw_X4_layOut : mwV yX4_layOut cX4_layOut 2 none 1 := ⟨w_998, w_999, w_43, w_1000, by decide, by decide, by decide +kernel⟩
theorem mw_X4_hadBy : mwV yX4_hadBy cX4_hadBy 2 (some .int) 1 := ⟨w_394, w_395, w_43, w_396, by decide, by decide, by decide +kernel⟩
theorem mw_X4_sellTo : mwV yX4_sellTo cX4_sellTo 4 none 2 := ⟨w_1045, w_1046, w_43, w_1047, by decide, by decide, by decide +kernel⟩
theorem mw_X5_init : mwI yX5_init cX5_init 4 3 := ⟨w_746, w_60, w_747, rfl, by decide, by decide, by decide +kernel⟩
theorem mw_X5_isFilled : mwV yX5_isFilled cX5_isFilled 1 (some .boolean) 0 := ⟨w_314, w_315, w_60, w_316, by decide, by decide, by decide +kernel⟩
theorem mw_X5_fillOn : mwV yX5_fillOn cX5_fillOn 2 (some .boolean) 1 := ⟨w_865, w_866, w_60, w_867, by decide, by decide, by decide +kernel⟩
theorem mw_X5_bondState : mwV yX5_bondState cX5_bondState 3 (some .int) 1 := ⟨w_402, w_403, w_60, w_404, by decide, by decide, by decide +kernel⟩
theorem mw_X6_init : mwI yX6_init cX6_init 2 1 := ⟨w_526, w_54, w_527, rfl, by decide, by decide, by decide +kernel⟩
theorem mw_X6_firstFault : mwV yX6_firstFault cX6_firstFault 1 (some .int) 0 := ⟨w_650, w_651, w_54, w_652, by decide, by decide, by decide +kernel⟩
theorem mw_X6_refuse : mwV yX6_refuse cX6_refuse 1 none 0 := ⟨w_621, w_622, w_54, w_623, by decide, by decide, by decide +kernel⟩
theorem mw_X6_takeWord : mwV yX6_takeWord cX6_takeWord 4 (some .boolean) 1 := ⟨w_562, w_563, w_54, w_564, by decide, by decide, by decide +kernel⟩
theorem mw_X6_expectWord : mwV yX6_expectWord cX6_expectWord 2 none 1 := ⟨w_616, w_617, w_54, w_618, by decide, by decide, by decide +kernel⟩
theorem mw_X6_expectNumber : mwV yX6_expectNumber cX6_expectNumber 6 (some .int) 2 := ⟨w_626, w_627, w_54, w_628, by decide, by decide, by decide +kernel⟩
theorem mw_X6_takeSemicolon : mwV yX6_takeSemicolon cX6_takeSemicolon 1 (some .boolean) 0 := ⟨w_654, w_655, w_54, w_656, by decide, by decide, by decide +kernel⟩
theorem mw_X6_expectEnd : mwV yX6_expectEnd cX6_expectEnd 1 none 0 := ⟨w_662, w_663, w_54, w_664, by decide, by decide, by decide +kernel⟩
theorem mw_X6_goOnFrom : mwV yX6_goOnFrom cX6_goOnFrom 2 none 1 := ⟨w_531, w_7, w_54, w_532, by decide, by decide, by decide +kernel⟩
theorem mw_X6_isLetter : mwS yX6_isLetter cX6_isLetter 1 (some .boolean) 1 := ⟨w_566, w_54, w_567, by decide, by decide, by decide +kernel⟩
theorem mw_X6_isDigit : mwS yX6_isDigit cX6_isDigit 1 (some .boolean) 1 := ⟨w_630, w_54, w_631, by decide, by decide, by decide +kernel⟩
theorem mw_X7_init : mwI yX7_init cX7_init 1 0 := ⟨w_208, w_45, w_209, rfl, by decide, by decide, by decide +kernel⟩
theorem mw_X7_begin : mwV yX7_begin cX7_begin 4 none 2 := ⟨w_1075, w_1076, w_45, w_1077, by decide, by decide, by decide +kernel⟩
theorem mw_X7_hasCell : mwV yX7_hasCell cX7_hasCell 3 (some .boolean) 2 := ⟨w_1086, w_1087, w_45, w_1088, by decide, by decide, by decide +kernel⟩
theorem mw_X7_setFlaw : mwV yX7_setFlaw cX7_setFlaw 5 (some .boolean) 3 := ⟨w_1091, w_1092, w_45, w_1093, by decide, by decide, by decide +kernel⟩
theorem mw_X7_greatestWorth : mwV yX7_greatestWorth cX7_greatestWorth 1 (some .int) 0 := ⟨w_331, w_332, w_45, w_333, by decide, by decide, by decide +kernel⟩
theorem mw_X7_fewestCuts : mwV yX7_fewestCuts cX7_fewestCuts 1 (some .int) 0 := ⟨w_361, w_362, w_45, w_363, by decide, by decide, by decide +kernel⟩
theorem mw_X7_weighAll : mwV yX7_weighAll cX7_weighAll 5 none 0 := ⟨w_336, w_0, w_45, w_337, by decide, by decide, by decide +kernel⟩
theorem mw_X7_weigh : mwV yX7_weigh cX7_weigh 8 none 4 := ⟨w_340, w_1, w_45, w_341, by decide, by decide, by decide +kernel⟩
theorem mw_X7_isClear : mwV yX7_isClear cX7_isClear 5 (some .boolean) 4 := ⟨w_350, w_2, w_45, w_351, by decide, by decide, by decide +kernel⟩
theorem mw_X7_tryCut : mwV yX7_tryCut cX7_tryCut 6 none 3 := ⟨w_354, w_3, w_45, w_355, by decide, by decide, by decide +kernel⟩
theorem mw_X7_place : mwS yX7_place cX7_place 4 (some .int) 4 := ⟨w_343, w_45, w_344, by decide, by decide, by decide +kernel⟩
theorem mw_X7_runOf : mwS yX7_runOf cX7_runOf 2 (some .int) 2 := ⟨w_346, w_45, w_347, by decide, by decide, by decide +kernel⟩
theorem mw_X8_init : mwI yX8_init cX8_init 3 2 := ⟨w_954, w_65, w_955, rfl, by decide, by decide, by decide +kernel⟩
theorem mw_X8_isSold : mwV yX8_isSold cX8_isSold 1 (some .boolean) 0 := ⟨w_1029, w_1030, w_65, w_1031, by decide, by decide, by decide +kernel⟩
theorem mw_X8_takeHand : mwV yX8_takeHand cX8_takeHand 3 (some .boolean) 2 := ⟨w_1025, w_1026, w_65, w_1027, by decide, by decide, by decide +kernel⟩
theorem mw_X8_buyerFor : mwV yX8_buyerFor cX8_buyerFor 5 (some .int) 1 := ⟨w_1041, w_1042, w_65, w_1043, by decide, by decide, by decide +kernel⟩
theorem mw_X9_init : mwI yX9_init cX9_init 1 0 := ⟨w_77, w_35, w_78, rfl, by decide, by decide, by decide +kernel⟩
theorem mw_X9_length : mwV yX9_length cX9_length 1 (some .int) 0 := ⟨w_263, w_264, w_35, w_265, by decide, by decide, by decide +kernel⟩
theorem mw_X9_hasRoom : mwV yX9_hasRoom cX9_hasRoom 1 (some .boolean) 0 := ⟨w_255, w_256, w_35, w_257, by decide, by decide, by decide +kernel⟩
theorem mw_X9_put : mwV yX9_put cX9_put 3 none 1 := ⟨w_259, w_260, w_35, w_261, by decide, by decide, by decide +kernel⟩
theorem mw_X9_shorten : mwV yX9_shorten cX9_shorten 2 (some .boolean) 1 := ⟨w_271, w_272, w_35, w_273, by decide, by decide, by decide +kernel⟩
theorem mw_X9_byteAt : mwV yX9_byteAt cX9_byteAt 2 (some .int) 1 := ⟨w_535, w_536, w_35, w_537, by decide, by decide, by decide +kernel⟩
theorem mw_X10_init : mwI yX10_init cX10_init 1 0 := ⟨w_69, w_34, w_70, rfl, by decide, by decide, by decide +kernel⟩
theorem mw_X10_feed : mwV yX10_feed cX10_feed 6 (some .int) 5 := ⟨w_251, w_252, w_34, w_253, by decide, by decide, by decide +kernel⟩
theorem mw_X10_end : mwV yX10_end cX10_end 2 (some .boolean) 1 := ⟨w_267, w_268, w_34, w_269, by decide, by decide, by decide +kernel⟩
theorem mw_X10_step : mwV yX10_step cX10_step 2 none 1 := ⟨w_419, w_420, w_34, w_421, by decide, by decide, by decide +kernel⟩
theorem mw_X10_law : mwV yX10_law cX10_law 3 (some .int) 0 := ⟨w_506, w_507, w_34, w_508, by decide, by decide, by decide +kernel⟩
theorem mw_X10_agreement : mwV yX10_agreement cX10_agreement 3 (some .int) 0 := ⟨w_685, w_686, w_34, w_687, by decide, by decide, by decide +kernel⟩
theorem mw_X10_fault : mwV yX10_fault cX10_fault 1 (some .int) 0 := ⟨w_275, w_276, w_34, w_277, by decide, by decide, by decide +kernel⟩
theorem mw_X10_sink : mwV yX10_sink cX10_sink 2 (some .int) 1 := ⟨w_701, w_702, w_34, w_703, by decide, by decide, by decide +kernel⟩
theorem mw_X10_wash : mwV yX10_wash cX10_wash 4 (some .boolean) 2 := ⟨w_840, w_841, w_34, w_842, by decide, by decide, by decide +kernel⟩
theorem mw_X10_fill : mwV yX10_fill cX10_fill 2 (some .boolean) 1 := ⟨w_861, w_862, w_34, w_863, by decide, by decide, by decide +kernel⟩
theorem mw_X10_days : mwV yX10_days cX10_days 2 (some .int) 1 := ⟨w_872, w_873, w_34, w_874, by decide, by decide, by decide +kernel⟩
theorem mw_X10_span : mwV yX10_span cX10_span 3 (some .int) 2 := ⟨w_884, w_885, w_34, w_886, by decide, by decide, by decide +kernel⟩
theorem mw_X10_best : mwV yX10_best cX10_best 1 (some .int) 0 := ⟨w_279, w_280, w_34, w_281, by decide, by decide, by decide +kernel⟩
theorem mw_X10_look : mwV yX10_look cX10_look 4 (some .int) 2 := ⟨w_901, w_902, w_34, w_903, by decide, by decide, by decide +kernel⟩
theorem mw_X10_stone : mwV yX10_stone cX10_stone 4 (some .int) 2 := ⟨w_926, w_927, w_34, w_928, by decide, by decide, by decide +kernel⟩
theorem mw_X10_lay : mwV yX10_lay cX10_lay 2 (some .int) 1 := ⟨w_991, w_992, w_34, w_993, by decide, by decide, by decide +kernel⟩
theorem mw_X10_hand : mwV yX10_hand cX10_hand 5 (some .boolean) 3 := ⟨w_1005, w_1006, w_34, w_1007, by decide, by decide, by decide +kernel⟩
theorem mw_X10_sell : mwV yX10_sell cX10_sell 5 (some .int) 2 := ⟨w_1036, w_1037, w_34, w_1038, by decide, by decide, by decide +kernel⟩
theorem mw_X10_part : mwV yX10_part cX10_part 4 (some .int) 2 := ⟨w_1062, w_1063, w_34, w_1064, by decide, by decide, by decide +kernel⟩
theorem mw_X10_rough : mwV yX10_rough cX10_rough 3 none 2 := ⟨w_1070, w_1071, w_34, w_1072, by decide, by decide, by decide +kernel⟩
theorem mw_X10_flaw : mwV yX10_flaw cX10_flaw 4 (some .boolean) 3 := ⟨w_1082, w_1083, w_34, w_1084, by decide, by decide, by decide +kernel⟩
theorem mw_X10_most : mwV yX10_most cX10_most 1 (some .int) 0 := ⟨w_327, w_328, w_34, w_329, by decide, by decide, by decide +kernel⟩
theorem mw_X10_cuts : mwV yX10_cuts cX10_cuts 1 (some .int) 0 := ⟨w_357, w_358, w_34, w_359, by decide, by decide, by decide +kernel⟩
theorem mw_X10_count : mwV yX10_count cX10_count 2 (some .int) 1 := ⟨w_365, w_366, w_34, w_367, by decide, by decide, by decide +kernel⟩
theorem mw_X10_readTape : mwV yX10_readTape cX10_readTape 4 (some .int) 1 := ⟨w_521, w_6, w_34, w_522, by decide, by decide, by decide +kernel⟩
theorem mw_X10_pitOf : mwV yX10_pitOf cX10_pitOf 2 (some (.object "GemPits$Pit")) 1 := ⟨w_845, w_11, w_34, w_846, by decide, by decide, by decide +kernel⟩
theorem mw_X10_stoneOf : mwV yX10_stoneOf cX10_stoneOf 2 (some (.object "GemPits$Stone")) 1 := ⟨w_1010, w_12, w_34, w_1011, by decide, by decide, by decide +kernel⟩
theorem mw_X10_checkSquare : mwS yX10_checkSquare cX10_checkSquare 1 none 1 := ⟨w_705, w_34, w_706, by decide, by decide, by decide +kernel⟩
theorem mw_X10_checkMoney : mwS yX10_checkMoney cX10_checkMoney 1 none 1 := ⟨w_1020, w_34, w_1021, by decide, by decide, by decide +kernel⟩
theorem mw_X11_init : mwI yX11_init cX11_init 1 0 := ⟨w_1097, w_46, w_1098, rfl, by decide, by decide, by decide +kernel⟩
theorem mw_X11_thrown : mwV yX11_thrown cX11_thrown 1 (some .int) 0 := ⟨w_1195, w_1196, w_46, w_1197, by decide, by decide, by decide +kernel⟩
theorem mw_X11_throwsIf : mwV yX11_throwsIf cX11_throwsIf 3 (some .boolean) 2 := ⟨w_1259, w_22, w_46, w_1260, by decide, by decide, by decide +kernel⟩
theorem mw_X11_in : mwS yX11_in cX11_in 3 (some .boolean) 3 := ⟨w_1274, w_46, w_1275, by decide, by decide, by decide +kernel⟩
theorem mw_X11_noSquare : mwS yX11_noSquare cX11_noSquare 1 (some .boolean) 1 := ⟨w_1281, w_46, w_1282, by decide, by decide, by decide +kernel⟩
theorem mw_X11_noPit : mwV yX11_noPit cX11_noPit 2 (some .boolean) 1 := ⟨w_1298, w_24, w_46, w_1299, by decide, by decide, by decide +kernel⟩
theorem mw_X11_noStone : mwV yX11_noStone cX11_noStone 2 (some .boolean) 1 := ⟨w_1348, w_28, w_46, w_1349, by decide, by decide, by decide +kernel⟩
theorem mw_X11_feed : mwV yX11_feed cX11_feed 7 (some .int) 5 := ⟨w_1199, w_1200, w_46, w_1201, by decide, by decide, by decide +kernel⟩
theorem mw_X11_end : mwV yX11_end cX11_end 2 (some .boolean) 1 := ⟨w_1203, w_1204, w_46, w_1205, by decide, by decide, by decide +kernel⟩
theorem mw_X11_isAt : mwV yX11_isAt cX11_isAt 3 (some .boolean) 2 := ⟨w_1228, w_18, w_46, w_1229, by decide, by decide, by decide +kernel⟩
theorem mw_X11_blanks : mwV yX11_blanks cX11_blanks 1 none 0 := ⟨w_1224, w_17, w_46, w_1225, by decide, by decide, by decide +kernel⟩
theorem mw_X11_word : mwV yX11_word cX11_word 1 none 0 := ⟨w_1220, w_16, w_46, w_1221, by decide, by decide, by decide +kernel⟩
theorem mw_X11_isWord : mwV yX11_isWord cX11_isWord 4 (some .boolean) 1 := ⟨w_1233, w_19, w_46, w_1234, by decide, by decide, by decide +kernel⟩
theorem mw_X11_number : mwV yX11_number cX11_number 5 (some .boolean) 3 := ⟨w_1239, w_20, w_46, w_1240, by decide, by decide, by decide +kernel⟩
theorem mw_X11_readTerm : mwV yX11_readTerm cX11_readTerm 1 (some .boolean) 0 := ⟨w_1216, w_15, w_46, w_1217, by decide, by decide, by decide +kernel⟩
theorem mw_X11_readPart : mwV yX11_readPart cX11_readPart 1 (some .boolean) 0 := ⟨w_1246, w_21, w_46, w_1247, by decide, by decide, by decide +kernel⟩
theorem mw_X11_readAll : mwV yX11_readAll cX11_readAll 3 (some .int) 1 := ⟨w_1212, w_14, w_46, w_1213, by decide, by decide, by decide +kernel⟩
theorem mw_X11_law : mwV yX11_law cX11_law 3 (some .int) 0 := ⟨w_1207, w_1208, w_46, w_1209, by decide, by decide, by decide +kernel⟩
theorem mw_X11_agreement : mwV yX11_agreement cX11_agreement 3 (some .int) 0 := ⟨w_1262, w_1263, w_46, w_1264, by decide, by decide, by decide +kernel⟩
theorem mw_X11_fault : mwV yX11_fault cX11_fault 1 (some .int) 0 := ⟨w_1266, w_1267, w_46, w_1268, by decide, by decide, by decide +kernel⟩
theorem mw_X11_step : mwV yX11_step cX11_step 2 none 1 := ⟨w_1270, w_1271, w_46, w_1272, by decide, by decide, by decide +kernel⟩
theorem mw_X11_apart : mwS yX11_apart cX11_apart 2 (some .int) 2 := ⟨w_1288, w_46, w_1289, by decide, by decide, by decide +kernel⟩
theorem mw_X11_mayBeSunk : mwV yX11_mayBeSunk cX11_mayBeSunk 4 (some .boolean) 1 := ⟨w_1285, w_23, w_46, w_1286, by decide, by decide, by decide +kernel⟩
theorem mw_X11_sink : mwV yX11_sink cX11_sink 2 (some .int) 1 := ⟨w_1277, w_1278, w_46, w_1279, by decide, by decide, by decide +kernel⟩
theorem mw_X11_wash : mwV yX11_wash cX11_wash 3 (some .boolean) 2 := ⟨w_1293, w_1294, w_46, w_1295, by decide, by decide, by decide +kernel⟩
theorem mw_X11_fill : mwV yX11_fill cX11_fill 2 (some .boolean) 1 := ⟨w_1301, w_1302, w_46, w_1303, by decide, by decide, by decide +kernel⟩
theorem mw_X11_days : mwV yX11_days cX11_days 2 (some .int) 1 := ⟨w_1305, w_1306, w_46, w_1307, by decide, by decide, by decide +kernel⟩
theorem mw_X11_low : mwV yX11_low cX11_low 4 (some .int) 1 := ⟨w_1315, w_25, w_46, w_1316, by decide, by decide, by decide +kernel⟩
theorem mw_X11_high : mwV yX11_high cX11_high 4 (some .int) 1 := ⟨w_1319, w_26, w_46, w_1320, by decide, by decide, by decide +kernel⟩
theorem mw_X11_span : mwV yX11_span cX11_span 5 (some .int) 2 := ⟨w_1310, w_1311, w_46, w_1312, by decide, by decide, by decide +kernel⟩
theorem mw_X11_best : mwV yX11_best cX11_best 6 (some .int) 0 := ⟨w_1322, w_1323, w_46, w_1324, by decide, by decide, by decide +kernel⟩
theorem mw_X11_bondOf : mwV yX11_bondOf cX11_bondOf 3 (some .int) 1 := ⟨w_1331, w_27, w_46, w_1332, by decide, by decide, by decide +kernel⟩
theorem mw_X11_look : mwV yX11_look cX11_look 3 (some .int) 2 := ⟨w_1326, w_1327, w_46, w_1328, by decide, by decide, by decide +kernel⟩
theorem mw_X11_stone : mwV yX11_stone cX11_stone 4 (some .int) 2 := ⟨w_1334, w_1335, w_46, w_1336, by decide, by decide, by decide +kernel⟩
theorem mw_X11_lay : mwV yX11_lay cX11_lay 2 (some .int) 1 := ⟨w_1338, w_1339, w_46, w_1340, by decide, by decide, by decide +kernel⟩
theorem mw_X11_hand : mwV yX11_hand cX11_hand 4 (some .boolean) 3 := ⟨w_1343, w_1344, w_46, w_1345, by decide, by decide, by decide +kernel⟩
theorem mw_X11_parts : mwV yX11_parts cX11_parts 7 none 2 := ⟨w_1357, w_29, w_46, w_1358, by decide, by decide, by decide +kernel⟩
theorem mw_X11_sell : mwV yX11_sell cX11_sell 6 (some .int) 2 := ⟨w_1352, w_1353, w_46, w_1354, by decide, by decide, by decide +kernel⟩
theorem mw_X11_part : mwV yX11_part cX11_part 3 (some .int) 2 := ⟨w_1360, w_1361, w_46, w_1362, by decide, by decide, by decide +kernel⟩
theorem mw_X11_rough : mwV yX11_rough cX11_rough 4 none 2 := ⟨w_1364, w_1365, w_46, w_1366, by decide, by decide, by decide +kernel⟩
theorem mw_X11_flaw : mwV yX11_flaw cX11_flaw 5 (some .boolean) 3 := ⟨w_1368, w_1369, w_46, w_1370, by decide, by decide, by decide +kernel⟩
theorem mw_X11_placeOf : mwS yX11_placeOf cX11_placeOf 4 (some .int) 4 := ⟨w_1380, w_46, w_1381, by decide, by decide, by decide +kernel⟩
theorem mw_X11_isClear : mwV yX11_isClear cX11_isClear 8 (some .boolean) 4 := ⟨w_1384, w_31, w_46, w_1385, by decide, by decide, by decide +kernel⟩
theorem mw_X11_better : mwV yX11_better cX11_better 6 none 3 := ⟨w_1388, w_32, w_46, w_1389, by decide, by decide, by decide +kernel⟩
theorem mw_X11_weighs : mwV yX11_weighs cX11_weighs 8 none 0 := ⟨w_1377, w_30, w_46, w_1378, by decide, by decide, by decide +kernel⟩
theorem mw_X11_most : mwV yX11_most cX11_most 1 (some .int) 0 := ⟨w_1372, w_1373, w_46, w_1374, by decide, by decide, by decide +kernel⟩
theorem mw_X11_cuts : mwV yX11_cuts cX11_cuts 1 (some .int) 0 := ⟨w_1391, w_1392, w_46, w_1393, by decide, by decide, by decide +kernel⟩
theorem mw_X11_count : mwV yX11_count cX11_count 4 (some .int) 1 := ⟨w_1395, w_1396, w_46, w_1397, by decide, by decide, by decide +kernel⟩
theorem mw_J0_length_8abf5 : mwV yJ0_length_8abf5 cJ0_length_8abf5 1 (some .int) 0 := ⟨w_569, w_570, w_55, w_571, by decide, by decide, by decide +kernel⟩
theorem mw_J0_charAt_5068e : mwV yJ0_charAt_5068e cJ0_charAt_5068e 2 (some .char) 1 := ⟨w_579, w_580, w_55, w_581, by decide, by decide, by decide +kernel⟩
theorem mw_J0_coder_7d493 : mwV yJ0_coder_7d493 cJ0_coder_7d493 1 (some .byte) 0 := ⟨w_573, w_574, w_55, w_575, by decide, by decide, by decide +kernel⟩
theorem mw_J0_isLatin1_aae02 : mwV yJ0_isLatin1_aae02 cJ0_isLatin1_aae02 1 (some .boolean) 0 := ⟨w_583, w_584, w_55, w_585, by decide, by decide, by decide +kernel⟩
theorem mw_J0_checkIndex_df160 : mwS yJ0_checkIndex_df160 cJ0_checkIndex_df160 2 none 2 := ⟨w_590, w_55, w_591, by decide, by decide, by decide +kernel⟩
theorem mw_J1_charAt_3b067 : mwS yJ1_charAt_3b067 cJ1_charAt_3b067 2 (some .char) 2 := ⟨w_587, w_56, w_588, by decide, by decide, by decide +kernel⟩
theorem mw_J2_getChar_3b067 : mwS yJ2_getChar_3b067 cJ2_getChar_3b067 2 (some .char) 2 := ⟨w_606, w_57, w_607, by decide, by decide, by decide +kernel⟩
theorem mw_J2_length_9d52b : mwS yJ2_length_9d52b cJ2_length_9d52b 1 (some .int) 1 := ⟨w_602, w_57, w_603, by decide, by decide, by decide +kernel⟩
theorem mw_J2_charAt_3b067 : mwS yJ2_charAt_3b067 cJ2_charAt_3b067 2 (some .char) 2 := ⟨w_596, w_57, w_597, by decide, by decide, by decide +kernel⟩
theorem mw_J2_checkIndex_2214a : mwS yJ2_checkIndex_2214a cJ2_checkIndex_2214a 2 none 2 := ⟨w_599, w_57, w_600, by decide, by decide, by decide +kernel⟩
theorem mw_Jxa1e45_init_da8c8 : mwI yJxa1e45_init_da8c8 cJxa1e45_init_da8c8 1 0 := ⟨w_103, w_37, w_104, rfl, by decide, by decide, by decide +kernel⟩
theorem mw_Jxc12de_init_da8c8 : mwI yJxc12de_init_da8c8 cJxc12de_init_da8c8 1 0 := ⟨w_100, w_38, w_101, rfl, by decide, by decide, by decide +kernel⟩
theorem mw_Jx4a65c_init_da8c8 : mwI yJx4a65c_init_da8c8 cJx4a65c_init_da8c8 1 0 := ⟨w_97, w_39, w_98, rfl, by decide, by decide, by decide +kernel⟩
theorem mw_Jx4a65c_grow_92f84 : mwV yJx4a65c_grow_92f84 cJx4a65c_grow_92f84 4 (some (.array (.object "java/lang/Object"))) 1 := ⟨w_790, w_10, w_39, w_791, by decide, by decide, by decide +kernel⟩
theorem mw_Jx4a65c_grow_d5877 : mwV yJx4a65c_grow_d5877 cJx4a65c_grow_d5877 1 (some (.array (.object "java/lang/Object"))) 0 := ⟨w_786, w_9, w_39, w_787, by decide, by decide, by decide +kernel⟩
theorem mw_Jx4a65c_size_8abf5 : mwV yJx4a65c_size_8abf5 cJx4a65c_size_8abf5 1 (some .int) 0 := ⟨w_295, w_296, w_39, w_297, by decide, by decide, by decide +kernel⟩
theorem mw_Jx4a65c_elementData_915e3 : mwV yJx4a65c_elementData_915e3 cJx4a65c_elementData_915e3 2 (some (.object "java/lang/Object")) 1 := ⟨w_309, w_310, w_39, w_311, by decide, by decide, by decide +kernel⟩
theorem mw_Jx4a65c_get_915e3 : mwV yJx4a65c_get_915e3 cJx4a65c_get_915e3 2 (some (.object "java/lang/Object")) 1 := ⟨w_299, w_300, w_39, w_301, by decide, by decide, by decide +kernel⟩
theorem mw_Jx4a65c_add_72be8 : mwV yJx4a65c_add_72be8 cJx4a65c_add_72be8 4 none 3 := ⟨w_782, w_8, w_39, w_783, by decide, by decide, by decide +kernel⟩
theorem mw_Jx4a65c_add_9ea2d : mwV yJx4a65c_add_9ea2d cJx4a65c_add_9ea2d 2 (some .boolean) 1 := ⟨w_777, w_778, w_39, w_779, by decide, by decide, by decide +kernel⟩
theorem mw_J7_fill_53178 : mwS yJ7_fill_53178 cJ7_fill_53178 4 none 2 := ⟨w_144, w_42, w_145, by decide, by decide, by decide +kernel⟩
theorem mw_J7_copyOf_1904c : mwS yJ7_copyOf_1904c cJ7_copyOf_1904c 2 (some (.array (.object "java/lang/Object"))) 2 := ⟨w_801, w_42, w_802, by decide, by decide, by decide +kernel⟩
theorem mw_J7_copyOf_6403c : mwS yJ7_copyOf_6403c cJ7_copyOf_6403c 4 (some (.array (.object "java/lang/Object"))) 3 := ⟨w_825, w_42, w_826, by decide, by decide, by decide +kernel⟩
theorem mw_J15_checkIndex_7cf53 : mwS yJ15_checkIndex_7cf53 cJ15_checkIndex_7cf53 2 (some .int) 2 := ⟨w_303, w_51, w_304, by decide, by decide, by decide +kernel⟩
theorem mw_J8_newLength_cabcc : mwS yJ8_newLength_cabcc cJ8_newLength_cabcc 4 (some .int) 3 := ⟨w_793, w_61, w_794, by decide, by decide, by decide +kernel⟩
theorem mw_J8_hugeLength_7cf53 : mwS yJ8_hugeLength_7cf53 cJ8_hugeLength_7cf53 3 (some .int) 2 := ⟨w_798, w_61, w_799, by decide, by decide, by decide +kernel⟩
theorem mw_J3_checkIndex_8e157 : mwS yJ3_checkIndex_8e157 cJ3_checkIndex_8e157 3 (some .int) 3 := ⟨w_306, w_52, w_307, by decide, by decide, by decide +kernel⟩
