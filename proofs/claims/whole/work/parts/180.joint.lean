/-- what the law makes of a number where a boolean is wanted -/
def gz (x : Int32) : Int32 := if x = 0 then 0 else 1
theorem gz_0 {x : Int32} (h : x = 0) : 0 = gz x := (if_pos h).symm
theorem gz_1 {x : Int32} (h : ¬ x = 0) : 1 = gz x := (if_neg h).symm
theorem gz_or (x : Int32) : gz x = 0 ∨ gz x = 1 := by
  unfold gz
  split
  · exact Or.inl rfl
  · exact Or.inr rfl
def J_byteAt (V : (Nat → Int32) → (Nat → Nat → Int32) → (Nat → Nat → Int64) → Prop) : Prop := ∀ (I : Nat → Int32) (A : Nat → Nat → Int32) (B : Nat → Nat → Int64) (x1 : Int32), V I A B → ∃ (k : Int32) (I1 : Nat → Int32) (A1 : Nat → Nat → Int32) (B1 : Nat → Nat → Int64) (d : Nat) (v : Int32) (I2 : Nat → Int32) (A2 : Nat → Nat → Int32) (B2 : Nat → Nat → Int64), (∀ Q : xQ, Q (.inl (some (.int k))) (HX I1 A1 B1) d → xRun tb_L_byteAt 4 [.ref 0, .int x1, .ref 41] (HX I A B) Q) ∧ d ≤ 1 ∧ (∀ Q : xQ, Q (.inl (some (.int v))) (HX I2 A2 B2) 0 → xRun tb_M_byteAt 2 [.ref 24, .int x1] (HX I1 A1 B1) Q) ∧ I2 9 = k ∧ (k = 0 → B2 41 0 = v.toInt64) ∧ V I2 A2 B2
set_option maxRecDepth 100000 in
theorem lcase_13 {V : (Nat → Int32) → (Nat → Nat → Int32) → (Nat → Nat → Int64) → Prop} {L : Nat} {xs : Nat → Int32} (hJ : J_byteAt V) : xCase V L xs 1207 := by
  intro I A B i n a b c hV hi hL hn hk
  have q1 : vp_in ((nI i) + (1 : Int32)) L := lw_in (k := 1) (by omega) hL
  refine xG.go [1215, 1227, 1233, 1355] 60 ?_
  show (vp_in ((nI i) + (1 : Int32)) L ∧ xG (tb_law L xs) xQL (1215, [some (.ref 99), some (.ref 0), some (.ref 24), some (.ref 41), some (.int (nI i)), a, b, c], [.ref 41, .int (xs ((nI i) + (1 : Int32)).toNatClampNeg), .ref 0], (HX I A B), n))
  refine ⟨q1, ?_⟩
  obtain ⟨k, I1, A1, B1, d, v, I2, A2, B2, h1, hd, h2, e9, ev, hV2⟩ := hJ I A B (xs ((nI i) + (1 : Int32)).toNatClampNeg) hV
  refine xG.callP (F := xRun tb_L_byteAt 4) rfl hn rfl (h1 _ ?_)
  refine xG.go [1215, 1227, 1233, 1355] 60 ?_
  show (vp_in ((nI i) + (1 : Int32)) L ∧ xG (tb_law L xs) xQL (1227, [some (.ref 99), some (.ref 0), some (.ref 24), some (.ref 41), some (.int (nI i)), some (.int k), b, c], [.int (xs ((nI i) + (1 : Int32)).toNatClampNeg), .ref 24], (HX I1 A1 B1), (n + d)))
  refine ⟨q1, ?_⟩
  refine xG.callVP (F := xRun tb_M_byteAt 2) (a := 24) rfl rfl rfl (by omega) rfl (h2 _ ?_)
  refine xG.go [1215, 1227, 1233, 1355] 60 ?_
  show xG (tb_law L xs) xQL (1233, [some (.ref 99), some (.ref 0), some (.ref 24), some (.ref 41), some (.int (nI i)), some (.int k), some (.int v), c], [.ref 24], (HX I2 A2 B2), (n + d))
  refine xG.callVP (F := xRun tb_M_thrown 1) (a := 24) rfl rfl rfl (by omega) rfl (p_M_thrown ?_)
  refine xG.go [1215, 1227, 1233, 1355] 60 ?_
  show (((I2 9) = k → ((k = 0 → (vp_in (0 : Int32) 1 ∧ (((lg_cmp ((B2 41) (0 : Int32).toNatClampNeg) v.toInt64) = 0 → xG (tb_law L xs) xQL (1355, [some (.ref 99), some (.ref 0), some (.ref 24), some (.ref 41), some (.int (nI i)), some (.int k), some (.int v), c], [], (HX I2 A2 B2), (n + d))) ∧ (¬ (lg_cmp ((B2 41) (0 : Int32).toNatClampNeg) v.toInt64) = 0 → (((0 : Int32) = (0 : Int32) ∨ (0 : Int32) = 1) ∧ xQL (.inl (some (.int (0 : Int32)))) (HX I2 A2 B2) (n + d)))))) ∧ (¬ k = 0 → xG (tb_law L xs) xQL (1355, [some (.ref 99), some (.ref 0), some (.ref 24), some (.ref 41), some (.int (nI i)), some (.int k), some (.int v), c], [], (HX I2 A2 B2), (n + d))))) ∧ (¬ (I2 9) = k → (((0 : Int32) = (0 : Int32) ∨ (0 : Int32) = 1) ∧ xQL (.inl (some (.int (0 : Int32)))) (HX I2 A2 B2) (n + d))))
  exact ⟨fun _ => ⟨fun z => ⟨vp_in_nI (n := 0) (by omega) (by omega), fun _ => hk _ _ _ _ _ _ _ hV2 (by omega), fun w => absurd ((lg_cmp_eq _ _).mpr (ev z)) w⟩, fun _ => hk _ _ _ _ _ _ _ hV2 (by omega)⟩, fun z => absurd e9 z⟩
def J_poke (V : (Nat → Int32) → (Nat → Nat → Int32) → (Nat → Nat → Int64) → Prop) : Prop := ∀ (I : Nat → Int32) (A : Nat → Nat → Int32) (B : Nat → Nat → Int64) (x1 : Int32) (x2 : Int32), V I A B → ∃ (k : Int32) (I1 : Nat → Int32) (A1 : Nat → Nat → Int32) (B1 : Nat → Nat → Int64) (d : Nat) (I2 : Nat → Int32) (A2 : Nat → Nat → Int32) (B2 : Nat → Nat → Int64), (∀ Q : xQ, Q (.inl (some (.int k))) (HX I1 A1 B1) d → xRun tb_L_poke 4 [.ref 0, .int x1, .int x2] (HX I A B) Q) ∧ d ≤ 1 ∧ (∀ Q : xQ, Q (.inl none) (HX I2 A2 B2) 0 → xRun tb_M_poke 3 [.ref 24, .int x1, .int x2] (HX I1 A1 B1) Q) ∧ I2 9 = k ∧ V I2 A2 B2
set_option maxRecDepth 100000 in
theorem lcase_14 {V : (Nat → Int32) → (Nat → Nat → Int32) → (Nat → Nat → Int64) → Prop} {L : Nat} {xs : Nat → Int32} (hJ : J_poke V) : xCase V L xs 1263 := by
  intro I A B i n a b c hV hi hL hn hk
  have q1 : vp_in ((nI i) + (1 : Int32)) L := lw_in (k := 1) (by omega) hL
  have q2 : vp_in ((nI i) + (2 : Int32)) L := lw_in (k := 2) (by omega) hL
  refine xG.go [1276, 1294, 1298, 1355] 60 ?_
  show (vp_in ((nI i) + (1 : Int32)) L ∧ (vp_in ((nI i) + (2 : Int32)) L ∧ xG (tb_law L xs) xQL (1276, [some (.ref 99), some (.ref 0), some (.ref 24), some (.ref 41), some (.int (nI i)), a, b, c], [.int (xs ((nI i) + (2 : Int32)).toNatClampNeg), .int (xs ((nI i) + (1 : Int32)).toNatClampNeg), .ref 0], (HX I A B), n)))
  refine ⟨q1, q2, ?_⟩
  obtain ⟨k, I1, A1, B1, d, I2, A2, B2, h1, hd, h2, e9, hV2⟩ := hJ I A B (xs ((nI i) + (1 : Int32)).toNatClampNeg) (xs ((nI i) + (2 : Int32)).toNatClampNeg) hV
  refine xG.callP (F := xRun tb_L_poke 4) rfl hn rfl (h1 _ ?_)
  refine xG.go [1276, 1294, 1298, 1355] 60 ?_
  show (vp_in ((nI i) + (1 : Int32)) L ∧ (vp_in ((nI i) + (2 : Int32)) L ∧ xG (tb_law L xs) xQL (1294, [some (.ref 99), some (.ref 0), some (.ref 24), some (.ref 41), some (.int (nI i)), some (.int k), b, c], [.int (xs ((nI i) + (2 : Int32)).toNatClampNeg), .int (xs ((nI i) + (1 : Int32)).toNatClampNeg), .ref 24], (HX I1 A1 B1), (n + d))))
  refine ⟨q1, q2, ?_⟩
  refine xG.callVP (F := xRun tb_M_poke 3) (a := 24) rfl rfl rfl (by omega) rfl (h2 _ ?_)
  refine xG.go [1276, 1294, 1298, 1355] 60 ?_
  show xG (tb_law L xs) xQL (1298, [some (.ref 99), some (.ref 0), some (.ref 24), some (.ref 41), some (.int (nI i)), some (.int k), b, c], [.ref 24], (HX I2 A2 B2), (n + d))
  refine xG.callVP (F := xRun tb_M_thrown 1) (a := 24) rfl rfl rfl (by omega) rfl (p_M_thrown ?_)
  refine xG.go [1276, 1294, 1298, 1355] 60 ?_
  show (((I2 9) = k → xG (tb_law L xs) xQL (1355, [some (.ref 99), some (.ref 0), some (.ref 24), some (.ref 41), some (.int (nI i)), some (.int k), b, c], [], (HX I2 A2 B2), (n + d))) ∧ (¬ (I2 9) = k → (((0 : Int32) = (0 : Int32) ∨ (0 : Int32) = 1) ∧ xQL (.inl (some (.int (0 : Int32)))) (HX I2 A2 B2) (n + d))))
  exact ⟨fun _ => hk _ _ _ _ _ _ _ hV2 (by omega), fun z => absurd e9 z⟩
def J_load (V : (Nat → Int32) → (Nat → Nat → Int32) → (Nat → Nat → Int64) → Prop) : Prop := ∀ (I : Nat → Int32) (A : Nat → Nat → Int32) (B : Nat → Nat → Int64), V I A B → ∃ (k : Int32) (I1 : Nat → Int32) (A1 : Nat → Nat → Int32) (B1 : Nat → Nat → Int64) (d : Nat) (v : Int32) (I2 : Nat → Int32) (A2 : Nat → Nat → Int32) (B2 : Nat → Nat → Int64), (∀ Q : xQ, Q (.inl (some (.int k))) (HX I1 A1 B1) d → xRun tb_L_load 3 [.ref 0, .ref 41] (HX I A B) Q) ∧ d ≤ 1 ∧ (∀ Q : xQ, Q (.inl (some (.int v))) (HX I2 A2 B2) 0 → xRun tb_M_load 3 [.ref 24] (HX I1 A1 B1) Q) ∧ I2 9 = k ∧ (k = 0 → B2 41 0 = v.toInt64) ∧ V I2 A2 B2
set_option maxRecDepth 100000 in
theorem lcase_15 {V : (Nat → Int32) → (Nat → Nat → Int32) → (Nat → Nat → Int64) → Prop} {L : Nat} {xs : Nat → Int32} (hJ : J_load V) : xCase V L xs 1311 := by
  intro I A B i n a b c hV hi hL hn hk
  refine xG.go [1313, 1319, 1325, 1355] 60 ?_
  show xG (tb_law L xs) xQL (1313, [some (.ref 99), some (.ref 0), some (.ref 24), some (.ref 41), some (.int (nI i)), a, b, c], [.ref 41, .ref 0], (HX I A B), n)
  obtain ⟨k, I1, A1, B1, d, v, I2, A2, B2, h1, hd, h2, e9, ev, hV2⟩ := hJ I A B hV
  refine xG.callP (F := xRun tb_L_load 3) rfl hn rfl (h1 _ ?_)
  refine xG.go [1313, 1319, 1325, 1355] 60 ?_
  show xG (tb_law L xs) xQL (1319, [some (.ref 99), some (.ref 0), some (.ref 24), some (.ref 41), some (.int (nI i)), some (.int k), b, c], [.ref 24], (HX I1 A1 B1), (n + d))
  refine xG.callVP (F := xRun tb_M_load 3) (a := 24) rfl rfl rfl (by omega) rfl (h2 _ ?_)
  refine xG.go [1313, 1319, 1325, 1355] 60 ?_
  show xG (tb_law L xs) xQL (1325, [some (.ref 99), some (.ref 0), some (.ref 24), some (.ref 41), some (.int (nI i)), some (.int k), some (.int v), c], [.ref 24], (HX I2 A2 B2), (n + d))
  refine xG.callVP (F := xRun tb_M_thrown 1) (a := 24) rfl rfl rfl (by omega) rfl (p_M_thrown ?_)
  refine xG.go [1313, 1319, 1325, 1355] 60 ?_
  show (((I2 9) = k → ((k = 0 → (vp_in (0 : Int32) 1 ∧ (((lg_cmp ((B2 41) (0 : Int32).toNatClampNeg) v.toInt64) = 0 → xG (tb_law L xs) xQL (1355, [some (.ref 99), some (.ref 0), some (.ref 24), some (.ref 41), some (.int (nI i)), some (.int k), some (.int v), c], [], (HX I2 A2 B2), (n + d))) ∧ (¬ (lg_cmp ((B2 41) (0 : Int32).toNatClampNeg) v.toInt64) = 0 → (((0 : Int32) = (0 : Int32) ∨ (0 : Int32) = 1) ∧ xQL (.inl (some (.int (0 : Int32)))) (HX I2 A2 B2) (n + d)))))) ∧ (¬ k = 0 → xG (tb_law L xs) xQL (1355, [some (.ref 99), some (.ref 0), some (.ref 24), some (.ref 41), some (.int (nI i)), some (.int k), some (.int v), c], [], (HX I2 A2 B2), (n + d))))) ∧ (¬ (I2 9) = k → (((0 : Int32) = (0 : Int32) ∨ (0 : Int32) = 1) ∧ xQL (.inl (some (.int (0 : Int32)))) (HX I2 A2 B2) (n + d))))
  exact ⟨fun _ => ⟨fun z => ⟨vp_in_nI (n := 0) (by omega) (by omega), fun _ => hk _ _ _ _ _ _ _ hV2 (by omega), fun w => absurd ((lg_cmp_eq _ _).mpr (ev z)) w⟩, fun _ => hk _ _ _ _ _ _ _ hV2 (by omega)⟩, fun z => absurd e9 z⟩
def J_problem (V : (Nat → Int32) → (Nat → Nat → Int32) → (Nat → Nat → Int64) → Prop) : Prop := ∀ (I : Nat → Int32) (A : Nat → Nat → Int32) (B : Nat → Nat → Int64), V I A B → ∃ (v : Int32) (I1 : Nat → Int32) (A1 : Nat → Nat → Int32) (B1 : Nat → Nat → Int64) (I2 : Nat → Int32) (A2 : Nat → Nat → Int32) (B2 : Nat → Nat → Int64), (∀ Q : xQ, Q (.inl (some (.int v))) (HX I1 A1 B1) 0 → xRun tb_N_problem 1 [.ref 0] (HX I A B) Q) ∧ (∀ Q : xQ, Q (.inl (some (.int v))) (HX I2 A2 B2) 0 → xRun tb_M_problem 1 [.ref 24] (HX I1 A1 B1) Q) ∧ V I2 A2 B2
set_option maxRecDepth 100000 in
theorem lcase_5 {V : (Nat → Int32) → (Nat → Nat → Int32) → (Nat → Nat → Int64) → Prop} {L : Nat} {xs : Nat → Int32} (hJ : J_problem V) : xCase V L xs 746 := by
  intro I A B i n a b c hV hi hL hn hk
  obtain ⟨v, I1, A1, B1, I2, A2, B2, h1, h2, hV2⟩ := hJ I A B hV
  refine xG.go [747, 751, 1355] 60 ?_
  show xG (tb_law L xs) xQL (747, [some (.ref 99), some (.ref 0), some (.ref 24), some (.ref 41), some (.int (nI i)), a, b, c], [.ref 0], (HX I A B), n)
  refine xG.callVP (F := xRun tb_N_problem 1) (a := 0) rfl rfl rfl (by omega) rfl (h1 _ ?_)
  refine xG.go [747, 751, 1355] 60 ?_
  show xG (tb_law L xs) xQL (751, [some (.ref 99), some (.ref 0), some (.ref 24), some (.ref 41), some (.int (nI i)), a, b, c], [.ref 24, .int v], (HX I1 A1 B1), n)
  refine xG.callVP (F := xRun tb_M_problem 1) (a := 24) rfl rfl rfl (by omega) rfl (h2 _ ?_)
  refine xG.go [747, 751, 1355] 60 ?_
  show ((v = v → xG (tb_law L xs) xQL (1355, [some (.ref 99), some (.ref 0), some (.ref 24), some (.ref 41), some (.int (nI i)), a, b, c], [], (HX I2 A2 B2), n)) ∧ (¬ v = v → (((0 : Int32) = (0 : Int32) ∨ (0 : Int32) = 1) ∧ xQL (.inl (some (.int (0 : Int32)))) (HX I2 A2 B2) n)))
  exact ⟨fun _ => hk _ _ _ _ _ _ _ hV2 (by omega), fun z => absurd rfl z⟩
