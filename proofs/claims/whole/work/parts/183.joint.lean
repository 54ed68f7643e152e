def J_moveMember (V : (Nat → Int32) → (Nat → Nat → Int32) → (Nat → Nat → Int64) → Prop) : Prop := ∀ (I : Nat → Int32) (A : Nat → Nat → Int32) (B : Nat → Nat → Int64) (x1 : Int32) (x2 : Int32) (x3 : Int64), V I A B → ∃ (k : Int32) (I1 : Nat → Int32) (A1 : Nat → Nat → Int32) (B1 : Nat → Nat → Int64) (d : Nat) (v : Int32) (I2 : Nat → Int32) (A2 : Nat → Nat → Int32) (B2 : Nat → Nat → Int64), (∀ Q : xQ, Q (.inl (some (.int k))) (HX I1 A1 B1) d → xRun tb_L_moveMember 7 [.ref 0, .int x1, .int x2, .long x3, .ref 41] (HX I A B) Q) ∧ d ≤ 1 ∧ (∀ Q : xQ, Q (.inl (some (.int v))) (HX I2 A2 B2) 0 → xRun tb_M_moveMember 7 [.ref 24, .int x1, .int x2, .long x3] (HX I1 A1 B1) Q) ∧ I2 9 = k ∧ (k = 0 → B2 41 0 = v.toInt64) ∧ V I2 A2 B2
set_option maxRecDepth 100000 in
theorem lcase_4 {V : (Nat → Int32) → (Nat → Nat → Int32) → (Nat → Nat → Int64) → Prop} {L : Nat} {xs : Nat → Int32} (hJ : J_moveMember V) : xCase V L xs 634 := by
  intro I A B i n a b c hV hi hL hn hk
  have q1 : vp_in ((nI i) + (1 : Int32)) L := lw_in (k := 1) (by omega) hL
  have q2 : vp_in ((nI i) + (2 : Int32)) L := lw_in (k := 2) (by omega) hL
  have q3 : vp_in ((nI i) + (3 : Int32)) L := lw_in (k := 3) (by omega) hL
  have q4 : vp_in ((nI i) + (4 : Int32)) L := lw_in (k := 4) (by omega) hL
  refine xG.go [670, 710, 716, 1355] 60 ?_
  show (vp_in ((nI i) + (1 : Int32)) L ∧ (vp_in ((nI i) + (2 : Int32)) L ∧ (vp_in ((nI i) + (3 : Int32)) L ∧ (vp_in ((nI i) + (4 : Int32)) L ∧ xG (tb_law L xs) xQL (670, [some (.ref 99), some (.ref 0), some (.ref 24), some (.ref 41), some (.int (nI i)), a, b, c], [.ref 41, .long ((xshl (xs ((nI i) + (3 : Int32)).toNatClampNeg).toInt64 (32 : Int32)) ||| ((xs ((nI i) + (4 : Int32)).toNatClampNeg).toInt64 &&& (4294967295 : Int64))), .int (xs ((nI i) + (2 : Int32)).toNatClampNeg), .int (xs ((nI i) + (1 : Int32)).toNatClampNeg), .ref 0], (HX I A B), n)))))
  refine ⟨q1, q2, q3, q4, ?_⟩
  obtain ⟨k, I1, A1, B1, d, v, I2, A2, B2, h1, hd, h2, e9, ev, hV2⟩ := hJ I A B (xs ((nI i) + (1 : Int32)).toNatClampNeg) (xs ((nI i) + (2 : Int32)).toNatClampNeg) ((xshl (xs ((nI i) + (3 : Int32)).toNatClampNeg).toInt64 (32 : Int32)) ||| ((xs ((nI i) + (4 : Int32)).toNatClampNeg).toInt64 &&& (4294967295 : Int64))) hV
  refine xG.callP (F := xRun tb_L_moveMember 7) rfl hn rfl (h1 _ ?_)
  refine xG.go [670, 710, 716, 1355] 60 ?_
  show (vp_in ((nI i) + (1 : Int32)) L ∧ (vp_in ((nI i) + (2 : Int32)) L ∧ (vp_in ((nI i) + (3 : Int32)) L ∧ (vp_in ((nI i) + (4 : Int32)) L ∧ xG (tb_law L xs) xQL (710, [some (.ref 99), some (.ref 0), some (.ref 24), some (.ref 41), some (.int (nI i)), some (.int k), b, c], [.long ((xshl (xs ((nI i) + (3 : Int32)).toNatClampNeg).toInt64 (32 : Int32)) ||| ((xs ((nI i) + (4 : Int32)).toNatClampNeg).toInt64 &&& (4294967295 : Int64))), .int (xs ((nI i) + (2 : Int32)).toNatClampNeg), .int (xs ((nI i) + (1 : Int32)).toNatClampNeg), .ref 24], (HX I1 A1 B1), (n + d))))))
  refine ⟨q1, q2, q3, q4, ?_⟩
  refine xG.callVP (F := xRun tb_M_moveMember 7) (a := 24) rfl rfl rfl (by omega) rfl (h2 _ ?_)
  refine xG.go [670, 710, 716, 1355] 60 ?_
  show xG (tb_law L xs) xQL (716, [some (.ref 99), some (.ref 0), some (.ref 24), some (.ref 41), some (.int (nI i)), some (.int k), some (.int v), c], [.ref 24], (HX I2 A2 B2), (n + d))
  refine xG.callVP (F := xRun tb_M_thrown 1) (a := 24) rfl rfl rfl (by omega) rfl (p_M_thrown ?_)
  refine xG.go [670, 710, 716, 1355] 60 ?_
  show (((I2 9) = k → ((k = 0 → (vp_in (0 : Int32) 1 ∧ (((lg_cmp ((B2 41) (0 : Int32).toNatClampNeg) v.toInt64) = 0 → xG (tb_law L xs) xQL (1355, [some (.ref 99), some (.ref 0), some (.ref 24), some (.ref 41), some (.int (nI i)), some (.int k), some (.int v), c], [], (HX I2 A2 B2), (n + d))) ∧ (¬ (lg_cmp ((B2 41) (0 : Int32).toNatClampNeg) v.toInt64) = 0 → (((0 : Int32) = (0 : Int32) ∨ (0 : Int32) = 1) ∧ xQL (.inl (some (.int (0 : Int32)))) (HX I2 A2 B2) (n + d)))))) ∧ (¬ k = 0 → xG (tb_law L xs) xQL (1355, [some (.ref 99), some (.ref 0), some (.ref 24), some (.ref 41), some (.int (nI i)), some (.int k), some (.int v), c], [], (HX I2 A2 B2), (n + d))))) ∧ (¬ (I2 9) = k → (((0 : Int32) = (0 : Int32) ∨ (0 : Int32) = 1) ∧ xQL (.inl (some (.int (0 : Int32)))) (HX I2 A2 B2) (n + d))))
  exact ⟨fun _ => ⟨fun z => ⟨vp_in_nI (n := 0) (by omega) (by omega), fun _ => hk _ _ _ _ _ _ _ hV2 (by omega), fun w => absurd ((lg_cmp_eq _ _).mpr (ev z)) w⟩, fun _ => hk _ _ _ _ _ _ _ hV2 (by omega)⟩, fun z => absurd e9 z⟩
def J_apply (V : (Nat → Int32) → (Nat → Nat → Int32) → (Nat → Nat → Int64) → Prop) : Prop := ∀ (I : Nat → Int32) (A : Nat → Nat → Int32) (B : Nat → Nat → Int64), V I A B → ∃ (k : Int32) (I1 : Nat → Int32) (A1 : Nat → Nat → Int32) (B1 : Nat → Nat → Int64) (d : Nat) (v : Int32) (I2 : Nat → Int32) (A2 : Nat → Nat → Int32) (B2 : Nat → Nat → Int64), (∀ Q : xQ, Q (.inl (some (.int k))) (HX I1 A1 B1) d → xRun tb_L_apply 3 [.ref 0, .ref 41] (HX I A B) Q) ∧ d ≤ 1 ∧ (∀ Q : xQ, Q (.inl (some (.int v))) (HX I2 A2 B2) 0 → xRun tb_M_apply 3 [.ref 24] (HX I1 A1 B1) Q) ∧ I2 9 = k ∧ (k = 0 → B2 41 0 = v.toInt64) ∧ V I2 A2 B2
set_option maxRecDepth 100000 in
theorem lcase_6 {V : (Nat → Int32) → (Nat → Nat → Int32) → (Nat → Nat → Int64) → Prop} {L : Nat} {xs : Nat → Int32} (hJ : J_apply V) : xCase V L xs 759 := by
  intro I A B i n a b c hV hi hL hn hk
  refine xG.go [761, 767, 773, 1355] 60 ?_
  show xG (tb_law L xs) xQL (761, [some (.ref 99), some (.ref 0), some (.ref 24), some (.ref 41), some (.int (nI i)), a, b, c], [.ref 41, .ref 0], (HX I A B), n)
  obtain ⟨k, I1, A1, B1, d, v, I2, A2, B2, h1, hd, h2, e9, ev, hV2⟩ := hJ I A B hV
  refine xG.callP (F := xRun tb_L_apply 3) rfl hn rfl (h1 _ ?_)
  refine xG.go [761, 767, 773, 1355] 60 ?_
  show xG (tb_law L xs) xQL (767, [some (.ref 99), some (.ref 0), some (.ref 24), some (.ref 41), some (.int (nI i)), some (.int k), b, c], [.ref 24], (HX I1 A1 B1), (n + d))
  refine xG.callVP (F := xRun tb_M_apply 3) (a := 24) rfl rfl rfl (by omega) rfl (h2 _ ?_)
  refine xG.go [761, 767, 773, 1355] 60 ?_
  show xG (tb_law L xs) xQL (773, [some (.ref 99), some (.ref 0), some (.ref 24), some (.ref 41), some (.int (nI i)), some (.int k), some (.int v), c], [.ref 24], (HX I2 A2 B2), (n + d))
  refine xG.callVP (F := xRun tb_M_thrown 1) (a := 24) rfl rfl rfl (by omega) rfl (p_M_thrown ?_)
  refine xG.go [761, 767, 773, 1355] 60 ?_
  show (((I2 9) = k → ((k = 0 → (vp_in (0 : Int32) 1 ∧ (((lg_cmp ((B2 41) (0 : Int32).toNatClampNeg) v.toInt64) = 0 → xG (tb_law L xs) xQL (1355, [some (.ref 99), some (.ref 0), some (.ref 24), some (.ref 41), some (.int (nI i)), some (.int k), some (.int v), c], [], (HX I2 A2 B2), (n + d))) ∧ (¬ (lg_cmp ((B2 41) (0 : Int32).toNatClampNeg) v.toInt64) = 0 → (((0 : Int32) = (0 : Int32) ∨ (0 : Int32) = 1) ∧ xQL (.inl (some (.int (0 : Int32)))) (HX I2 A2 B2) (n + d)))))) ∧ (¬ k = 0 → xG (tb_law L xs) xQL (1355, [some (.ref 99), some (.ref 0), some (.ref 24), some (.ref 41), some (.int (nI i)), some (.int k), some (.int v), c], [], (HX I2 A2 B2), (n + d))))) ∧ (¬ (I2 9) = k → (((0 : Int32) = (0 : Int32) ∨ (0 : Int32) = 1) ∧ xQL (.inl (some (.int (0 : Int32)))) (HX I2 A2 B2) (n + d))))
  exact ⟨fun _ => ⟨fun z => ⟨vp_in_nI (n := 0) (by omega) (by omega), fun _ => hk _ _ _ _ _ _ _ hV2 (by omega), fun w => absurd ((lg_cmp_eq _ _).mpr (ev z)) w⟩, fun _ => hk _ _ _ _ _ _ _ hV2 (by omega)⟩, fun z => absurd e9 z⟩
def J_cancel (V : (Nat → Int32) → (Nat → Nat → Int32) → (Nat → Nat → Int64) → Prop) : Prop := ∀ (I : Nat → Int32) (A : Nat → Nat → Int32) (B : Nat → Nat → Int64), V I A B → ∃ (v : Int32) (I1 : Nat → Int32) (A1 : Nat → Nat → Int32) (B1 : Nat → Nat → Int64) (I2 : Nat → Int32) (A2 : Nat → Nat → Int32) (B2 : Nat → Nat → Int64), (∀ Q : xQ, Q (.inl (some (.int v))) (HX I1 A1 B1) 0 → xRun tb_N_cancel 2 [.ref 0] (HX I A B) Q) ∧ (∀ Q : xQ, Q (.inl (some (.int v))) (HX I2 A2 B2) 0 → xRun tb_M_cancel 3 [.ref 24] (HX I1 A1 B1) Q) ∧ V I2 A2 B2
set_option maxRecDepth 100000 in
theorem lcase_7 {V : (Nat → Int32) → (Nat → Nat → Int32) → (Nat → Nat → Int64) → Prop} {L : Nat} {xs : Nat → Int32} (hJ : J_cancel V) : xCase V L xs 803 := by
  intro I A B i n a b c hV hi hL hn hk
  obtain ⟨v, I1, A1, B1, I2, A2, B2, h1, h2, hV2⟩ := hJ I A B hV
  refine xG.go [804, 808, 1355] 60 ?_
  show xG (tb_law L xs) xQL (804, [some (.ref 99), some (.ref 0), some (.ref 24), some (.ref 41), some (.int (nI i)), a, b, c], [.ref 0], (HX I A B), n)
  refine xG.callVP (F := xRun tb_N_cancel 2) (a := 0) rfl rfl rfl (by omega) rfl (h1 _ ?_)
  refine xG.go [804, 808, 1355] 60 ?_
  show xG (tb_law L xs) xQL (808, [some (.ref 99), some (.ref 0), some (.ref 24), some (.ref 41), some (.int (nI i)), a, b, c], [.ref 24, .int v], (HX I1 A1 B1), n)
  refine xG.callVP (F := xRun tb_M_cancel 3) (a := 24) rfl rfl rfl (by omega) rfl (h2 _ ?_)
  refine xG.go [804, 808, 1355] 60 ?_
  show ((v = v → xG (tb_law L xs) xQL (1355, [some (.ref 99), some (.ref 0), some (.ref 24), some (.ref 41), some (.int (nI i)), a, b, c], [], (HX I2 A2 B2), n)) ∧ (¬ v = v → (((0 : Int32) = (0 : Int32) ∨ (0 : Int32) = 1) ∧ xQL (.inl (some (.int (0 : Int32)))) (HX I2 A2 B2) n)))
  exact ⟨fun _ => hk _ _ _ _ _ _ _ hV2 (by omega), fun z => absurd rfl z⟩
