def J_memberName (V : (Nat → Int32) → (Nat → Nat → Int32) → (Nat → Nat → Int64) → Prop) : Prop := ∀ (I : Nat → Int32) (A : Nat → Nat → Int32) (B : Nat → Nat → Int64) (x1 : Int32) (x2 : Int32) (x3 : Int32), (x3 = 0 ∨ x3 = 1) → V I A B → ∃ (k : Int32) (I1 : Nat → Int32) (A1 : Nat → Nat → Int32) (B1 : Nat → Nat → Int64) (d : Nat) (v : Int64) (I2 : Nat → Int32) (A2 : Nat → Nat → Int32) (B2 : Nat → Nat → Int64), (∀ Q : xQ, Q (.inl (some (.int k))) (HX I1 A1 B1) d → xRun tb_L_memberName 6 [.ref 0, .int x1, .int x2, .int x3, .ref 41] (HX I A B) Q) ∧ d ≤ 1 ∧ (∀ Q : xQ, Q (.inl (some (.long v))) (HX I2 A2 B2) 0 → xRun tb_M_memberName 4 [.ref 24, .int x1, .int x2, .int x3] (HX I1 A1 B1) Q) ∧ I2 9 = k ∧ (k = 0 → B2 41 0 = v) ∧ V I2 A2 B2
set_option maxRecDepth 100000 in
theorem lcase_10 {V : (Nat → Int32) → (Nat → Nat → Int32) → (Nat → Nat → Int64) → Prop} {L : Nat} {xs : Nat → Int32} (hJ : J_memberName V) : xCase V L xs 912 := by
  intro I A B i n a b c hV hi hL hn hk
  have q1 : vp_in ((nI i) + (1 : Int32)) L := lw_in (k := 1) (by omega) hL
  have q2 : vp_in ((nI i) + (2 : Int32)) L := lw_in (k := 2) (by omega) hL
  have q3 : vp_in ((nI i) + (3 : Int32)) L := lw_in (k := 3) (by omega) hL
  refine xG.go [940, 972, 978, 1355] 60 ?_
  show (vp_in ((nI i) + (1 : Int32)) L ∧ (vp_in ((nI i) + (2 : Int32)) L ∧ (vp_in ((nI i) + (3 : Int32)) L ∧ (((xs ((nI i) + (3 : Int32)).toNatClampNeg) = 0 → xG (tb_law L xs) xQL (940, [some (.ref 99), some (.ref 0), some (.ref 24), some (.ref 41), some (.int (nI i)), a, b, c], [.ref 41, .int (0 : Int32), .int (xs ((nI i) + (2 : Int32)).toNatClampNeg), .int (xs ((nI i) + (1 : Int32)).toNatClampNeg), .ref 0], (HX I A B), n)) ∧ (¬ (xs ((nI i) + (3 : Int32)).toNatClampNeg) = 0 → xG (tb_law L xs) xQL (940, [some (.ref 99), some (.ref 0), some (.ref 24), some (.ref 41), some (.int (nI i)), a, b, c], [.ref 41, .int (1 : Int32), .int (xs ((nI i) + (2 : Int32)).toNatClampNeg), .int (xs ((nI i) + (1 : Int32)).toNatClampNeg), .ref 0], (HX I A B), n))))))
  have key : ∀ f : Int32, f = gz (xs ((nI i) + (3 : Int32)).toNatClampNeg) → xG (tb_law L xs) xQL (940, xloc (nI i) a b c, [.ref 41, .int f, .int (xs ((nI i) + (2 : Int32)).toNatClampNeg), .int (xs ((nI i) + (1 : Int32)).toNatClampNeg), .ref 0], HX I A B, n) := by
    rintro f rfl
    obtain ⟨k, I1, A1, B1, d, v, I2, A2, B2, h1, hd, h2, e9, ev, hV2⟩ := hJ I A B (xs ((nI i) + (1 : Int32)).toNatClampNeg) (xs ((nI i) + (2 : Int32)).toNatClampNeg) (gz (xs ((nI i) + (3 : Int32)).toNatClampNeg)) (gz_or _) hV
    refine xG.callP (F := xRun tb_L_memberName 6) rfl hn rfl (h1 _ ?_)
    refine xG.go [940, 972, 978, 1355] 60 ?_
    show (vp_in ((nI i) + (1 : Int32)) L ∧ (vp_in ((nI i) + (2 : Int32)) L ∧ (vp_in ((nI i) + (3 : Int32)) L ∧ (((xs ((nI i) + (3 : Int32)).toNatClampNeg) = 0 → xG (tb_law L xs) xQL (972, [some (.ref 99), some (.ref 0), some (.ref 24), some (.ref 41), some (.int (nI i)), some (.int k), b, c], [.int (0 : Int32), .int (xs ((nI i) + (2 : Int32)).toNatClampNeg), .int (xs ((nI i) + (1 : Int32)).toNatClampNeg), .ref 24], (HX I1 A1 B1), (n + d))) ∧ (¬ (xs ((nI i) + (3 : Int32)).toNatClampNeg) = 0 → xG (tb_law L xs) xQL (972, [some (.ref 99), some (.ref 0), some (.ref 24), some (.ref 41), some (.int (nI i)), some (.int k), b, c], [.int (1 : Int32), .int (xs ((nI i) + (2 : Int32)).toNatClampNeg), .int (xs ((nI i) + (1 : Int32)).toNatClampNeg), .ref 24], (HX I1 A1 B1), (n + d)))))))
    have key2 : ∀ f : Int32, f = gz (xs ((nI i) + (3 : Int32)).toNatClampNeg) → xG (tb_law L xs) xQL (972, xloc (nI i) (some (.int k)) b c, [.int f, .int (xs ((nI i) + (2 : Int32)).toNatClampNeg), .int (xs ((nI i) + (1 : Int32)).toNatClampNeg), .ref 24], HX I1 A1 B1, n + d) := by
      rintro f rfl
      refine xG.callVP (F := xRun tb_M_memberName 4) (a := 24) rfl rfl rfl (by omega) rfl (h2 _ ?_)
      refine xG.go [940, 972, 978, 1355] 60 ?_
      show xG (tb_law L xs) xQL (978, [some (.ref 99), some (.ref 0), some (.ref 24), some (.ref 41), some (.int (nI i)), some (.int k), some (.long v), none], [.ref 24], (HX I2 A2 B2), (n + d))
      refine xG.callVP (F := xRun tb_M_thrown 1) (a := 24) rfl rfl rfl (by omega) rfl (p_M_thrown ?_)
      refine xG.go [940, 972, 978, 1355] 60 ?_
      show (((I2 9) = k → ((k = 0 → (vp_in (0 : Int32) 1 ∧ (((lg_cmp ((B2 41) (0 : Int32).toNatClampNeg) v) = 0 → xG (tb_law L xs) xQL (1355, [some (.ref 99), some (.ref 0), some (.ref 24), some (.ref 41), some (.int (nI i)), some (.int k), some (.long v), none], [], (HX I2 A2 B2), (n + d))) ∧ (¬ (lg_cmp ((B2 41) (0 : Int32).toNatClampNeg) v) = 0 → (((0 : Int32) = (0 : Int32) ∨ (0 : Int32) = 1) ∧ xQL (.inl (some (.int (0 : Int32)))) (HX I2 A2 B2) (n + d)))))) ∧ (¬ k = 0 → xG (tb_law L xs) xQL (1355, [some (.ref 99), some (.ref 0), some (.ref 24), some (.ref 41), some (.int (nI i)), some (.int k), some (.long v), none], [], (HX I2 A2 B2), (n + d))))) ∧ (¬ (I2 9) = k → (((0 : Int32) = (0 : Int32) ∨ (0 : Int32) = 1) ∧ xQL (.inl (some (.int (0 : Int32)))) (HX I2 A2 B2) (n + d))))
      exact ⟨fun _ => ⟨fun z => ⟨vp_in_nI (n := 0) (by omega) (by omega), fun _ => hk _ _ _ _ _ _ _ hV2 (by omega), fun w => absurd ((lg_cmp_eq _ _).mpr (ev z)) w⟩, fun _ => hk _ _ _ _ _ _ _ hV2 (by omega)⟩, fun z => absurd e9 z⟩
    exact ⟨q1, q2, q3, fun z => key2 0 (gz_0 z), fun z => key2 1 (gz_1 z)⟩
  exact ⟨q1, q2, q3, fun z => key 0 (gz_0 z), fun z => key 1 (gz_1 z)⟩
def J_write (V : (Nat → Int32) → (Nat → Nat → Int32) → (Nat → Nat → Int64) → Prop) : Prop := ∀ (I : Nat → Int32) (A : Nat → Nat → Int32) (B : Nat → Nat → Int64) (x1 : Int32), V I A B → ∃ (k : Int32) (I1 : Nat → Int32) (A1 : Nat → Nat → Int32) (B1 : Nat → Nat → Int64) (d : Nat) (v : Int32) (I2 : Nat → Int32) (A2 : Nat → Nat → Int32) (B2 : Nat → Nat → Int64), (∀ Q : xQ, Q (.inl (some (.int k))) (HX I1 A1 B1) d → xRun tb_L_write 4 [.ref 0, .int x1, .ref 41] (HX I A B) Q) ∧ d ≤ 1 ∧ (∀ Q : xQ, Q (.inl (some (.int v))) (HX I2 A2 B2) 0 → xRun tb_M_write 3 [.ref 24, .int x1] (HX I1 A1 B1) Q) ∧ I2 9 = k ∧ (k = 0 → B2 41 0 = v.toInt64) ∧ V I2 A2 B2
set_option maxRecDepth 100000 in
theorem lcase_12 {V : (Nat → Int32) → (Nat → Nat → Int32) → (Nat → Nat → Int64) → Prop} {L : Nat} {xs : Nat → Int32} (hJ : J_write V) : xCase V L xs 1151 := by
  intro I A B i n a b c hV hi hL hn hk
  have q1 : vp_in ((nI i) + (1 : Int32)) L := lw_in (k := 1) (by omega) hL
  refine xG.go [1159, 1171, 1177, 1355] 60 ?_
  show (vp_in ((nI i) + (1 : Int32)) L ∧ xG (tb_law L xs) xQL (1159, [some (.ref 99), some (.ref 0), some (.ref 24), some (.ref 41), some (.int (nI i)), a, b, c], [.ref 41, .int (xs ((nI i) + (1 : Int32)).toNatClampNeg), .ref 0], (HX I A B), n))
  refine ⟨q1, ?_⟩
  obtain ⟨k, I1, A1, B1, d, v, I2, A2, B2, h1, hd, h2, e9, ev, hV2⟩ := hJ I A B (xs ((nI i) + (1 : Int32)).toNatClampNeg) hV
  refine xG.callP (F := xRun tb_L_write 4) rfl hn rfl (h1 _ ?_)
  refine xG.go [1159, 1171, 1177, 1355] 60 ?_
  show (vp_in ((nI i) + (1 : Int32)) L ∧ xG (tb_law L xs) xQL (1171, [some (.ref 99), some (.ref 0), some (.ref 24), some (.ref 41), some (.int (nI i)), some (.int k), b, c], [.int (xs ((nI i) + (1 : Int32)).toNatClampNeg), .ref 24], (HX I1 A1 B1), (n + d)))
  refine ⟨q1, ?_⟩
  refine xG.callVP (F := xRun tb_M_write 3) (a := 24) rfl rfl rfl (by omega) rfl (h2 _ ?_)
  refine xG.go [1159, 1171, 1177, 1355] 60 ?_
  show xG (tb_law L xs) xQL (1177, [some (.ref 99), some (.ref 0), some (.ref 24), some (.ref 41), some (.int (nI i)), some (.int k), some (.int v), c], [.ref 24], (HX I2 A2 B2), (n + d))
  refine xG.callVP (F := xRun tb_M_thrown 1) (a := 24) rfl rfl rfl (by omega) rfl (p_M_thrown ?_)
  refine xG.go [1159, 1171, 1177, 1355] 60 ?_
  show (((I2 9) = k → ((k = 0 → (vp_in (0 : Int32) 1 ∧ (((lg_cmp ((B2 41) (0 : Int32).toNatClampNeg) v.toInt64) = 0 → xG (tb_law L xs) xQL (1355, [some (.ref 99), some (.ref 0), some (.ref 24), some (.ref 41), some (.int (nI i)), some (.int k), some (.int v), c], [], (HX I2 A2 B2), (n + d))) ∧ (¬ (lg_cmp ((B2 41) (0 : Int32).toNatClampNeg) v.toInt64) = 0 → (((0 : Int32) = (0 : Int32) ∨ (0 : Int32) = 1) ∧ xQL (.inl (some (.int (0 : Int32)))) (HX I2 A2 B2) (n + d)))))) ∧ (¬ k = 0 → xG (tb_law L xs) xQL (1355, [some (.ref 99), some (.ref 0), some (.ref 24), some (.ref 41), some (.int (nI i)), some (.int k), some (.int v), c], [], (HX I2 A2 B2), (n + d))))) ∧ (¬ (I2 9) = k → (((0 : Int32) = (0 : Int32) ∨ (0 : Int32) = 1) ∧ xQL (.inl (some (.int (0 : Int32)))) (HX I2 A2 B2) (n + d))))
  exact ⟨fun _ => ⟨fun z => ⟨vp_in_nI (n := 0) (by omega) (by omega), fun _ => hk _ _ _ _ _ _ _ hV2 (by omega), fun w => absurd ((lg_cmp_eq _ _).mpr (ev z)) w⟩, fun _ => hk _ _ _ _ _ _ _ hV2 (by omega)⟩, fun z => absurd e9 z⟩
