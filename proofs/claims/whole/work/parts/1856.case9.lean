theorem vInv.cls {I : Nat → Int32} {A : Nat → Nat → Int32} {B : Nat → Nat → Int64} (h : vInv I A B) : ∃ n, (n ≤ 8 ∧ I 0 = nI n ∧ I 10 = nI n) ∧ ∀ c, c < n → B 25 c = B 2 c ∧ B 26 c = B 3 c := by
  obtain ⟨n, mc, sz, h1, h2, -⟩ := h
  exact ⟨n, h1, fun c hc => ⟨(h2 c hc).1.1, (h2 c hc).1.2.1⟩⟩
-- case 9, from the reference's answer on
set_option maxRecDepth 100000 in
theorem t9_tail {L : Nat} {xs : Nat → Int32} {I : Nat → Int32} {A : Nat → Nat → Int32} {B : Nat → Nat → Int64} {i n : Nat} {k u : Int32} {v2 : Int64} (huk : u = k) (h0 : k = 0 → B 41 0 = v2) (hk : xG (tb_law L xs) xQL (1355, xloc (nI i) (some (.int k)) (some (.long v2)) none, [], HX I A B, n)) : xG (tb_law L xs) xQL (886, xloc (nI i) (some (.int k)) (some (.long v2)) none, [.int u], HX I A B, n) := by
  refine xG.go [164, 212, 218, 315, 386, 392, 451, 485, 489, 548, 598, 604, 670, 710, 716, 747, 751, 761, 767, 773, 804, 808, 817, 821, 851, 877, 883, 940, 972, 978, 1059, 1115, 1121, 1159, 1171, 1177, 1215, 1227, 1233, 1276, 1294, 1298, 1313, 1319, 1325, 1355] 60 ?_
  show ((u = k → ((k = 0 → (vp_in (0 : Int32) 1 ∧ (((lg_cmp ((B 41) (0 : Int32).toNatClampNeg) v2) = 0 → xG (tb_law L xs) xQL (1355, [some (.ref 99), some (.ref 0), some (.ref 24), some (.ref 41), some (.int (nI i)), some (.int k), some (.long v2), none], [], (HX I A B), n)) ∧ (¬ (lg_cmp ((B 41) (0 : Int32).toNatClampNeg) v2) = 0 → (((0 : Int32) = (0 : Int32) ∨ (0 : Int32) = 1) ∧ xQL (.inl (some (.int (0 : Int32)))) (HX I A B) n))))) ∧ (¬ k = 0 → xG (tb_law L xs) xQL (1355, [some (.ref 99), some (.ref 0), some (.ref 24), some (.ref 41), some (.int (nI i)), some (.int k), some (.long v2), none], [], (HX I A B), n)))) ∧ (¬ u = k → (((0 : Int32) = (0 : Int32) ∨ (0 : Int32) = 1) ∧ xQL (.inl (some (.int (0 : Int32)))) (HX I A B) n)))
  exact ⟨fun _ => ⟨fun z => ⟨vp_in_nI (n := 0) (by omega) (by omega), fun _ => hk, fun w => absurd ((lg_cmp_eq _ _).mpr (h0 z)) w⟩, fun _ => hk⟩, fun z => absurd huk z⟩
set_option maxRecDepth 100000 in
theorem t9_ref {L : Nat} {xs : Nat → Int32} {I : Nat → Int32} {A : Nat → Nat → Int32} {B : Nat → Nat → Int64} {i n : Nat} {k : Int32} {m : Nat} {a b c : Option Value} (hi : i + 7 ≤ L) (hL : L ≤ 3584) (hn : n ≤ 512) (h8 : m ≤ 8) (e10 : I 10 = nI m)
    (hy : isC (I 10) (xs ((nI i) + (1 : Int32)).toNatClampNeg) = true → k = 0 ∧ B 41 0 = (if (xs ((nI i) + (2 : Int32)).toNatClampNeg) = 0 then B 25 (xs ((nI i) + (1 : Int32)).toNatClampNeg).toNatClampNeg else B 26 (xs ((nI i) + (1 : Int32)).toNatClampNeg).toNatClampNeg))
    (hno : isC (I 10) (xs ((nI i) + (1 : Int32)).toNatClampNeg) = false → k = 1)
    (hk : ∀ (u : Int32) (a' b' c' : Option Value), xG (tb_law L xs) xQL (1355, xloc (nI i) a' b' c', [], HX (va_up I 9 u) A B, n)) : xG (tb_law L xs) xQL (854, xloc (nI i) a b c, [.int k], HX I A B, n) := by
  have q1 : vp_in ((nI i) + (1 : Int32)) L := lw_in (k := 1) (by omega) hL
  have q2 : vp_in ((nI i) + (2 : Int32)) L := lw_in (k := 2) (by omega) hL
  refine xG.go [164, 212, 218, 315, 386, 392, 451, 485, 489, 548, 598, 604, 670, 710, 716, 747, 751, 761, 767, 773, 804, 808, 817, 821, 851, 877, 883, 940, 972, 978, 1059, 1115, 1121, 1159, 1171, 1177, 1215, 1227, 1233, 1276, 1294, 1298, 1313, 1319, 1325, 1355] 60 ?_
  show (vp_in ((nI i) + (1 : Int32)) L ∧ (vp_in ((nI i) + (2 : Int32)) L ∧ (((xs ((nI i) + (2 : Int32)).toNatClampNeg) = 0 → xG (tb_law L xs) xQL (877, [some (.ref 99), some (.ref 0), some (.ref 24), some (.ref 41), some (.int (nI i)), some (.int k), b, c], [.int (0 : Int32), .int (xs ((nI i) + (1 : Int32)).toNatClampNeg), .ref 24], (HX I A B), n)) ∧ (¬ (xs ((nI i) + (2 : Int32)).toNatClampNeg) = 0 → xG (tb_law L xs) xQL (877, [some (.ref 99), some (.ref 0), some (.ref 24), some (.ref 41), some (.int (nI i)), some (.int k), b, c], [.int (1 : Int32), .int (xs ((nI i) + (1 : Int32)).toNatClampNeg), .ref 24], (HX I A B), n)))))
  generalize (xs ((nI i) + (1 : Int32)).toNatClampNeg) = x1 at hy hno ⊢
  generalize (xs ((nI i) + (2 : Int32)).toNatClampNeg) = x2 at hy ⊢
  have key : ∀ f : Int32, (f = 0 ↔ x2 = 0) → xG (tb_law L xs) xQL (877, xloc (nI i) (some (.int k)) b c, [.int f, .int x1, .ref 24], HX I A B, n) := by
    intro f hf
    refine xG.callVP (F := xRun tb_M_className 3) (a := 24) rfl rfl rfl (by omega) rfl (p_M_className h8 e10 (fun hd => ?_) (fun hd => ?_))
    · obtain ⟨rfl, hB⟩ := hy hd
      have hB : B 41 0 = (if f = 0 then B 25 x1.toNatClampNeg else B 26 x1.toNatClampNeg) := by
        rw [hB]
        by_cases z : x2 = 0
        · rw [if_pos z, if_pos (hf.mpr z)]
        · rw [if_neg z, if_neg (fun w => z (hf.mp w))]
      generalize (if f = 0 then B 25 x1.toNatClampNeg else B 26 x1.toNatClampNeg) = v2 at hB ⊢
      refine xG.go [164, 212, 218, 315, 386, 392, 451, 485, 489, 548, 598, 604, 670, 710, 716, 747, 751, 761, 767, 773, 804, 808, 817, 821, 851, 877, 883, 940, 972, 978, 1059, 1115, 1121, 1159, 1171, 1177, 1215, 1227, 1233, 1276, 1294, 1298, 1313, 1319, 1325, 1355] 60 ?_
      show xG (tb_law L xs) xQL (883, [some (.ref 99), some (.ref 0), some (.ref 24), some (.ref 41), some (.int (nI i)), some (.int 0), some (.long v2), none], [.ref 24], (HX (va_up I 9 0) A B), n)
      refine xG.callVP (F := xRun tb_M_thrown 1) (a := 24) rfl rfl rfl (by omega) rfl (p_M_thrown ?_)
      exact t9_tail (k := 0) (u := 0) (v2 := v2) rfl (fun _ => hB) (hk 0 _ _ _)
    · obtain rfl := hno hd
      refine xG.go [164, 212, 218, 315, 386, 392, 451, 485, 489, 548, 598, 604, 670, 710, 716, 747, 751, 761, 767, 773, 804, 808, 817, 821, 851, 877, 883, 940, 972, 978, 1059, 1115, 1121, 1159, 1171, 1177, 1215, 1227, 1233, 1276, 1294, 1298, 1313, 1319, 1325, 1355] 60 ?_
      show xG (tb_law L xs) xQL (883, [some (.ref 99), some (.ref 0), some (.ref 24), some (.ref 41), some (.int (nI i)), some (.int 1), some (.long 0), none], [.ref 24], (HX (va_up I 9 1) A B), n)
      refine xG.callVP (F := xRun tb_M_thrown 1) (a := 24) rfl rfl rfl (by omega) rfl (p_M_thrown ?_)
      exact t9_tail (k := 1) (u := 1) (v2 := 0) rfl (fun z => absurd z (by decide)) (hk 1 _ _ _)
  exact ⟨q1, q2, fun z => key 0 ⟨fun _ => z, fun _ => rfl⟩, fun z => key 1 ⟨fun w => absurd w (by decide), fun w => absurd w z⟩⟩
set_option maxRecDepth 100000 in
theorem case_9 {L : Nat} {xs : Nat → Int32} : xCase vInv L xs 829 := by
  intro I A B i n a b c hV hi hL hn hk
  obtain ⟨m, ⟨h8, e0, e10⟩, hcls⟩ := hV.cls
  have q1 : vp_in ((nI i) + (1 : Int32)) L := lw_in (k := 1) (by omega) hL
  have q2 : vp_in ((nI i) + (2 : Int32)) L := lw_in (k := 2) (by omega) hL
  refine xG.go [164, 212, 218, 315, 386, 392, 451, 485, 489, 548, 598, 604, 670, 710, 716, 747, 751, 761, 767, 773, 804, 808, 817, 821, 851, 877, 883, 940, 972, 978, 1059, 1115, 1121, 1159, 1171, 1177, 1215, 1227, 1233, 1276, 1294, 1298, 1313, 1319, 1325, 1355] 60 ?_
  show (vp_in ((nI i) + (1 : Int32)) L ∧ (vp_in ((nI i) + (2 : Int32)) L ∧ (((xs ((nI i) + (2 : Int32)).toNatClampNeg) = 0 → xG (tb_law L xs) xQL (851, [some (.ref 99), some (.ref 0), some (.ref 24), some (.ref 41), some (.int (nI i)), a, b, c], [.ref 41, .int (0 : Int32), .int (xs ((nI i) + (1 : Int32)).toNatClampNeg), .ref 0], (HX I A B), n)) ∧ (¬ (xs ((nI i) + (2 : Int32)).toNatClampNeg) = 0 → xG (tb_law L xs) xQL (851, [some (.ref 99), some (.ref 0), some (.ref 24), some (.ref 41), some (.int (nI i)), a, b, c], [.ref 41, .int (1 : Int32), .int (xs ((nI i) + (1 : Int32)).toNatClampNeg), .ref 0], (HX I A B), n)))))
  have key : ∀ f : Int32, (f = 0 ↔ (xs ((nI i) + (2 : Int32)).toNatClampNeg) = 0) → xG (tb_law L xs) xQL (851, xloc (nI i) a b c, [.ref 41, .int f, .int (xs ((nI i) + (1 : Int32)).toNatClampNeg), .ref 0], HX I A B, n) := by
    intro f hf
    refine xG.callP (F := xRun tb_L_className 5) rfl hn rfl (p_L_className h8 e0 (fun hc => ?_) (fun hc => ?_))
    · refine t9_ref (k := 0) hi hL (by omega) h8 e10 (fun _ => ⟨rfl, ?_⟩) (fun hd => by rw [e10, ← e0, hc] at hd; cases hd) (fun u a' b' c' => hk _ _ _ _ _ _ _ hV (by omega))
      rw [e0] at hc
      obtain ⟨j, hj, ej⟩ := isC_in h8 hc
      have h2 := hcls j hj
      show vp_updL (B 41) 0 _ 0 = _
      rw [pk_uLs, ej, nI_clamp (by omega)]
      by_cases z : (xs ((nI i) + (2 : Int32)).toNatClampNeg) = 0
      · rw [if_pos z, if_pos (hf.mpr z)]; exact h2.1.symm
      · rw [if_neg z, if_neg (fun w => z (hf.mp w))]; exact h2.2.symm
    · exact t9_ref (k := 1) hi hL (by omega) h8 e10 (fun hd => by rw [e10, ← e0, hc] at hd; cases hd) (fun _ => rfl) (fun u a' b' c' => hk _ _ _ _ _ _ _ hV (by omega))
  exact ⟨q1, q2, fun z => key 0 ⟨fun _ => z, fun _ => rfl⟩, fun z => key 1 ⟨fun w => absurd w (by decide), fun w => absurd w z⟩⟩
