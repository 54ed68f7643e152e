/-- what holds between the class and the reference, between two calls -/
def vInv (I : Nat → Int32) (A : Nat → Nat → Int32) (B : Nat → Nat → Int64) : Prop := ∃ (n : Nat) (mc : Nat → Nat) (sz : Nat),
  (n ≤ 8 ∧ I 0 = nI n ∧ I 10 = nI n) ∧
  (∀ c, c < n → (B 25 c = B 2 c ∧ B 26 c = B 3 c ∧ A 27 c = A 4 c ∧ A 28 c = A 5 c) ∧ (A 5 c = 0 ∨ A 5 c = 1) ∧ (A 4 c = -1 ∨ ∃ p, p < c ∧ A 4 c = nI p) ∧ mc c ≤ 6 ∧ A 6 c = nI (mc c) ∧ A 29 c = nI (mc c)) ∧
  (∀ c k, c < n → k < mc c → (B 30 (8 * c + k) = B 8 (8 * c + k) ∧ B 31 (8 * c + k) = B 9 (8 * c + k) ∧ B 32 (8 * c + k) = B 10 (8 * c + k) ∧ A 33 (8 * c + k) = A 11 (8 * c + k)) ∧ (A 11 (8 * c + k) = 0 ∨ A 11 (8 * c + k) = 1)) ∧
  (∀ c d, c < n → d < n → B 2 c = B 2 d → c = d) ∧
  ((∀ c k l, c < n → k < mc c → l < mc c → B 8 (8 * c + k) = B 8 (8 * c + l) → B 10 (8 * c + k) = B 10 (8 * c + l) → k = l) ∧ vOk n mc A B) ∧
  (I 1 = nI sz ∧ I 11 = nI sz ∧ sz ≤ 480 ∧ ∀ j, j < sz → A 35 j = A 13 j ∧ 0 ≤ A 13 j ∧ A 13 j ≤ 255)
theorem vInv_0 : vInv (fun _ => 0) (fun _ _ => 0) (fun _ _ => 0) :=
  ⟨0, fun _ => 0, 0, ⟨by omega, rfl, rfl⟩, fun c h => by omega, fun c k h => by omega, fun c d h => by omega, ⟨fun c k l h => by omega, fun c h => by omega, fun c k h => by omega⟩, rfl, rfl, by omega, fun j h => by omega⟩
theorem vInv.count {I : Nat → Int32} {A : Nat → Nat → Int32} {B : Nat → Nat → Int64} (h : vInv I A B) : ∃ n, n ≤ 8 ∧ I 0 = nI n ∧ I 10 = nI n := by
  obtain ⟨n, -, -, h1, -⟩ := h
  exact ⟨n, h1⟩
set_option maxRecDepth 100000 in
theorem case_8 {L : Nat} {xs : Nat → Int32} : xCase vInv L xs 816 := by
  intro I A B i n a b c hV hi hL hn hk
  obtain ⟨m, h8, e0, e10⟩ := hV.count
  refine xG.go [164, 212, 218, 315, 386, 392, 451, 485, 489, 548, 598, 604, 670, 710, 716, 747, 751, 761, 767, 773, 804, 808, 817, 821, 851, 877, 883, 940, 972, 978, 1059, 1115, 1121, 1159, 1171, 1177, 1215, 1227, 1233, 1276, 1294, 1298, 1313, 1319, 1325, 1355] 60 ?_
  show xG (tb_law L xs) xQL (817, [some (.ref 99), some (.ref 0), some (.ref 24), some (.ref 41), some (.int (nI i)), a, b, c], [.ref 0], (HX I A B), n)
  refine xG.callVP (F := xRun tb_N_classes 1) (a := 0) rfl rfl rfl (by omega) rfl (p_N_classes ?_)
  refine xG.go [164, 212, 218, 315, 386, 392, 451, 485, 489, 548, 598, 604, 670, 710, 716, 747, 751, 761, 767, 773, 804, 808, 817, 821, 851, 877, 883, 940, 972, 978, 1059, 1115, 1121, 1159, 1171, 1177, 1215, 1227, 1233, 1276, 1294, 1298, 1313, 1319, 1325, 1355] 60 ?_
  show xG (tb_law L xs) xQL (821, [some (.ref 99), some (.ref 0), some (.ref 24), some (.ref 41), some (.int (nI i)), a, b, c], [.ref 24, .int (I 0)], (HX I A B), n)
  refine xG.callVP (F := xRun tb_M_classes 1) (a := 24) rfl rfl rfl (by omega) rfl (p_M_classes ?_)
  refine xG.go [164, 212, 218, 315, 386, 392, 451, 485, 489, 548, 598, 604, 670, 710, 716, 747, 751, 761, 767, 773, 804, 808, 817, 821, 851, 877, 883, 940, 972, 978, 1059, 1115, 1121, 1159, 1171, 1177, 1215, 1227, 1233, 1276, 1294, 1298, 1313, 1319, 1325, 1355] 60 ?_
  show (((I 0) = (I 10) → xG (tb_law L xs) xQL (1355, [some (.ref 99), some (.ref 0), some (.ref 24), some (.ref 41), some (.int (nI i)), a, b, c], [], (HX (va_up I 9 0) A B), n)) ∧ (¬ (I 0) = (I 10) → (((0 : Int32) = (0 : Int32) ∨ (0 : Int32) = 1) ∧ xQL (.inl (some (.int (0 : Int32)))) (HX (va_up I 9 0) A B) n)))
  exact ⟨fun _ => hk _ _ _ _ _ _ _ hV (by omega), fun z => absurd (e0.trans e10.symm) z⟩
