-- the problems, the reference's side
theorem d8 {m : Nat} (hm : m < 2 ^ 31) : nI m / (8 : Int32) = nI (m / 8) := pk_div (d := 8) hm (by omega) (by omega)
theorem r8 {m : Nat} (hm : m < 2 ^ 31) : nI m - nI m / (8 : Int32) * (8 : Int32) = nI (m % 8) := pk_rem (d := 8) hm (by omega) (by omega)
theorem p_M_isThere {I : Nat → Int32} {A : Nat → Nat → Int32} {B' : Nat → Nat → Int64} {Q : xQ} {n m : Nat} {mc : Nat → Nat} (h8 : n ≤ 8) (e0 : I 10 = nI n) (hm : ∀ c, c < n → mc c ≤ 6 ∧ A 29 c = nI (mc c)) (hl : m < 64) (hq : Q (.inl (some (.int (bI (numB mc n m))))) (HX I A B') 0) : xRun tb_M_isThere 2 [.ref 24, .int (nI m)] (HX I A B') Q := by
  refine ⟨Nat.le_of_ble_eq_true rfl, ?_⟩
  refine xG.go [] 60 ?_
  show (¬ (8 : Int32) = 0 ∧ (((I 10) ≤ ((nI m) / (8 : Int32)) → (((0 : Int32) = (0 : Int32) ∨ (0 : Int32) = 1) ∧ Q (.inl (some (.int (0 : Int32)))) (HX I A B') 0)) ∧ (¬ (I 10) ≤ ((nI m) / (8 : Int32)) → (¬ (8 : Int32) = 0 ∧ (¬ (8 : Int32) = 0 ∧ (vp_in ((nI m) / (8 : Int32)) 8 ∧ ((((A 29) ((nI m) / (8 : Int32)).toNatClampNeg) ≤ ((nI m) - (nI m) / (8 : Int32) * (8 : Int32)) → (((0 : Int32) = (0 : Int32) ∨ (0 : Int32) = 1) ∧ Q (.inl (some (.int (0 : Int32)))) (HX I A B') 0)) ∧ (¬ ((A 29) ((nI m) / (8 : Int32)).toNatClampNeg) ≤ ((nI m) - (nI m) / (8 : Int32) * (8 : Int32)) → (((1 : Int32) = (0 : Int32) ∨ (1 : Int32) = 1) ∧ Q (.inl (some (.int (1 : Int32)))) (HX I A B') 0)))))))))
  rw [e0, r8 (by omega), d8 (by omega)]
  unfold numB at hq
  refine ⟨by decide, fun z => ?_, fun z => ⟨by decide, by decide, vp_in_nI (by omega) (by omega), ?_⟩⟩
  · have w : ¬ m / 8 < n := fun w => nI_ge w (by omega) z
    rw [decide_eq_false w, Bool.false_and] at hq
    exact ⟨Or.inl rfl, hq⟩
  · have w : m / 8 < n := by
      rcases Nat.lt_or_ge (m / 8) n with w | w
      · exact w
      · exact absurd (nI_le w (by omega)) z
    have h6 := (hm _ w).1
    rw [decide_eq_true w, Bool.true_and] at hq
    rw [nI_clamp (by omega), (hm _ w).2]
    refine ⟨fun z1 => ?_, fun z1 => ?_⟩
    · rw [decide_eq_false (fun q => nI_ge q (by omega) z1)] at hq
      exact ⟨Or.inl rfl, hq⟩
    · have q : m % 8 < mc (m / 8) := by
        rcases Nat.lt_or_ge (m % 8) (mc (m / 8)) with q | q
        · exact q
        · exact absurd (nI_le q (by omega)) z1
      rw [decide_eq_true q] at hq
      exact ⟨Or.inr rfl, hq⟩
/-- what the two sides share, as far as the problems go -/
abbrev vSame (n : Nat) (mc : Nat → Nat) (A : Nat → Nat → Int32) (B B' : Nat → Nat → Int64) : Prop :=
  (n ≤ 8) ∧ (∀ c, c < n → mc c ≤ 6 ∧ A 6 c = nI (mc c)) ∧ (∀ c, c < n → mc c ≤ 6 ∧ A 29 c = nI (mc c)) ∧ (∀ c, c < n → vAnc A c ∧ A 27 c = A 4 c) ∧ (∀ c, c < n → B' 25 c = B 2 c ∧ B' 26 c = B 3 c ∧ A 28 c = A 5 c) ∧ (∀ c k, c < n → k < mc c → B' 30 (8 * c + k) = B 8 (8 * c + k) ∧ B' 31 (8 * c + k) = B 9 (8 * c + k) ∧ B' 32 (8 * c + k) = B 10 (8 * c + k) ∧ A 33 (8 * c + k) = A 11 (8 * c + k))
theorem vSame.h8 {n : Nat} {mc : Nat → Nat} {A : Nat → Nat → Int32} {B B' : Nat → Nat → Int64} (h : vSame n mc A B B') : n ≤ 8 := h.1
theorem vSame.hm {n : Nat} {mc : Nat → Nat} {A : Nat → Nat → Int32} {B B' : Nat → Nat → Int64} (h : vSame n mc A B B') : ∀ c, c < n → mc c ≤ 6 ∧ A 6 c = nI (mc c) := h.2.1
theorem vSame.hr {n : Nat} {mc : Nat → Nat} {A : Nat → Nat → Int32} {B B' : Nat → Nat → Int64} (h : vSame n mc A B B') : ∀ c, c < n → mc c ≤ 6 ∧ A 29 c = nI (mc c) := h.2.2.1
theorem vSame.hA {n : Nat} {mc : Nat → Nat} {A : Nat → Nat → Int32} {B B' : Nat → Nat → Int64} (h : vSame n mc A B B') : ∀ c, c < n → vAnc A c ∧ A 27 c = A 4 c := h.2.2.2.1
theorem vSame.hc {n : Nat} {mc : Nat → Nat} {A : Nat → Nat → Int32} {B B' : Nat → Nat → Int64} (h : vSame n mc A B B') : ∀ c, c < n → B' 25 c = B 2 c ∧ B' 26 c = B 3 c ∧ A 28 c = A 5 c := h.2.2.2.2.1
theorem vSame.hB {n : Nat} {mc : Nat → Nat} {A : Nat → Nat → Int32} {B B' : Nat → Nat → Int64} (h : vSame n mc A B B') : ∀ c k, c < n → k < mc c → B' 30 (8 * c + k) = B 8 (8 * c + k) ∧ B' 31 (8 * c + k) = B 9 (8 * c + k) ∧ B' 32 (8 * c + k) = B 10 (8 * c + k) ∧ A 33 (8 * c + k) = A 11 (8 * c + k) := h.2.2.2.2.2
theorem vSame.num {n : Nat} {mc : Nat → Nat} {A : Nat → Nat → Int32} {B B' : Nat → Nat → Int64} (h : vSame n mc A B B') {m : Nat} (hm : numB mc n m = true) : m / 8 < n ∧ B' 30 m = B 8 m ∧ B' 31 m = B 9 m ∧ B' 32 m = B 10 m ∧ A 33 m = A 11 m := by
  unfold numB at hm
  rw [Bool.and_eq_true, decide_eq_true_eq, decide_eq_true_eq] at hm
  have e : 8 * (m / 8) + m % 8 = m := by omega
  have := h.hB (m / 8) (m % 8) hm.1 hm.2
  rw [e] at this
  exact ⟨hm.1, this⟩
theorem vInv.same {I : Nat → Int32} {A : Nat → Nat → Int32} {B : Nat → Nat → Int64} (h : vInv I A B) : ∃ n mc, (I 0 = nI n ∧ I 10 = nI n) ∧ vSame n mc A B B := by
  obtain ⟨n, mc, sz, ⟨h8, e0, e10⟩, h2, h3, h4, h5, -⟩ := h
  exact ⟨n, mc, ⟨e0, e10⟩, h8, fun c hc => ⟨(h2 c hc).2.2.2.1, (h2 c hc).2.2.2.2.1⟩, fun c hc => ⟨(h2 c hc).2.2.2.1, (h2 c hc).2.2.2.2.2⟩, fun c hc => ⟨(h5.2.1 c hc).2.2, (h2 c hc).1.2.2.1⟩, fun c hc => ⟨(h2 c hc).1.1, (h2 c hc).1.2.1, (h2 c hc).1.2.2.2⟩, fun c k hc hk => (h3 c k hc hk).1⟩
theorem bec_rel {n : Nat} {A : Nat → Nat → Int32} {x y : Nat} (h8 : n ≤ 8) (hA : ∀ c, c < n → vAnc A c) (hx : x / 8 < n) (hy : y / 8 < n) (hxy : x ≤ y) : (sAn A (x / 8) (y / 8) || sAn A (y / 8) (x / 8)) = sAn A (x / 8) (y / 8) := by
  cases h : sAn A (y / 8) (x / 8) with
  | false => rw [Bool.or_false]
  | true =>
    have := sAn_le h8 hA (x / 8) (y / 8) hx (by omega) h
    have e : x / 8 = y / 8 := by omega
    rw [e, sAn_self]
    rfl
theorem p_M_meet {I : Nat → Int32} {A : Nat → Nat → Int32} {B B' : Nat → Nat → Int64} {Q : xQ} {n x y : Nat} {mc : Nat → Nat} (hS : vSame n mc A B B') (hx : numB mc n x = true) (hy : numB mc n y = true) (hxy : x ≤ y) (hq : Q (.inl (some (.int (bI (decide (bec A B x y)))))) (HX I A B') 0) : xRun tb_M_meet 3 [.ref 24, .int (nI x), .int (nI y)] (HX I A B') Q := by
  obtain ⟨x1, x2, x3, x4, x5⟩ := hS.num hx
  obtain ⟨y1, y2, y3, y4, y5⟩ := hS.num hy
  have h8 := hS.h8
  refine ⟨Nat.le_of_ble_eq_true rfl, ?_⟩
  refine xG.go [9] 60 ?_
  show (¬ (8 : Int32) = 0 ∧ (¬ (8 : Int32) = 0 ∧ xG tb_M_meet Q (9, [some (.ref 24), some (.int (nI x)), some (.int (nI y))], [.int ((nI y) / (8 : Int32)), .int ((nI x) / (8 : Int32)), .ref 24], (HX I A B'), 0)))
  rw [d8 (by omega), d8 (by omega)]
  refine ⟨by decide, by decide, ?_⟩
  refine xG.callV (F := xRun tb_M_areRelated 3) (a := 24) rfl rfl rfl rfl (p_M_areRelated h8 x1 y1 hS.hA ?_)
  rw [bec_rel h8 (fun c hc => (hS.hA c hc).1) x1 y1 hxy]
  refine xG.go [9] 60 ?_
  show (((bI (sAn A (x / 8) (y / 8))) = 0 → (((0 : Int32) = (0 : Int32) ∨ (0 : Int32) = 1) ∧ Q (.inl (some (.int (0 : Int32)))) (HX I A B') 0)) ∧ (¬ (bI (sAn A (x / 8) (y / 8))) = 0 → (vp_in (nI x) 64 ∧ (vp_in (nI y) 64 ∧ (((lg_cmp ((B' 32) (nI x).toNatClampNeg) ((B' 32) (nI y).toNatClampNeg)) = 0 → (vp_in (nI x) 64 ∧ (vp_in (nI y) 64 ∧ (((lg_cmp ((B' 31) (nI x).toNatClampNeg) ((B' 31) (nI y).toNatClampNeg)) = 0 → (vp_in (nI x) 64 ∧ (vp_in (nI y) 64 ∧ (((lg_cmp ((B' 30) (nI x).toNatClampNeg) ((B' 30) (nI y).toNatClampNeg)) = 0 → (((0 : Int32) = (0 : Int32) ∨ (0 : Int32) = 1) ∧ Q (.inl (some (.int (0 : Int32)))) (HX I A B') 0)) ∧ (¬ (lg_cmp ((B' 30) (nI x).toNatClampNeg) ((B' 30) (nI y).toNatClampNeg)) = 0 → (((1 : Int32) = (0 : Int32) ∨ (1 : Int32) = 1) ∧ Q (.inl (some (.int (1 : Int32)))) (HX I A B') 0)))))) ∧ (¬ (lg_cmp ((B' 31) (nI x).toNatClampNeg) ((B' 31) (nI y).toNatClampNeg)) = 0 → (((0 : Int32) = (0 : Int32) ∨ (0 : Int32) = 1) ∧ Q (.inl (some (.int (0 : Int32)))) (HX I A B') 0)))))) ∧ (¬ (lg_cmp ((B' 32) (nI x).toNatClampNeg) ((B' 32) (nI y).toNatClampNeg)) = 0 → (((0 : Int32) = (0 : Int32) ∨ (0 : Int32) = 1) ∧ Q (.inl (some (.int (0 : Int32)))) (HX I A B') 0)))))))
  rw [nI_clamp (by omega), nI_clamp (by omega), x2, x3, x4, y2, y3, y4]
  have hi : vp_in (nI x) 64 := vp_in_nI (by omega) (by omega)
  have hj : vp_in (nI y) 64 := vp_in_nI (by omega) (by omega)
  have no : ¬ bec A B x y → ((0 : Int32) = (0 : Int32) ∨ (0 : Int32) = 1) ∧ Q (.inl (some (.int 0))) (HX I A B') 0 := fun z => by
    rw [decide_eq_false z] at hq
    exact ⟨Or.inl rfl, hq⟩
  refine ⟨fun z => no (fun q => ?_), fun z => ⟨hi, hj, fun z1 => ⟨hi, hj, fun z2 => ⟨hi, hj, fun z3 => no (fun q => q.2.2.2 ((lg_cmp_eq _ _).mp z3)), fun z3 => ?_⟩, fun z2 => no (fun q => z2 ((lg_cmp_eq _ _).mpr q.2.2.1))⟩, fun z1 => no (fun q => z1 ((lg_cmp_eq _ _).mpr q.2.1))⟩⟩
  · rw [q.1] at z
    exact absurd z (by decide)
  · have : bec A B x y := ⟨by cases h : sAn A (x / 8) (y / 8) with | true => rfl | false => rw [h] at z; exact absurd rfl z, (lg_cmp_eq _ _).mp z1, (lg_cmp_eq _ _).mp z2, fun q => z3 ((lg_cmp_eq _ _).mpr q)⟩
    rw [decide_eq_true this] at hq
    exact ⟨Or.inr rfl, hq⟩
theorem p_M_parts_2 {I : Nat → Int32} {A : Nat → Nat → Int32} {B' : Nat → Nat → Int64} {Q : xQ} {x y : Nat} {a s t : Int64} {b : Bool} (hq : Q (.inl (some (.int (bI (!decide (b = decide (s = t))))))) (HX I A B') 0) : xG tb_M_parts Q (45, [some (.ref 24), some (.int (nI x)), some (.int (nI y))], [.long t, .long s, .int (bI b)], (HX I A B'), 0) := by
  refine xG.go [6, 15, 33, 42] 60 ?_
  show (((lg_cmp s t) = 0 → (((bI b) = (1 : Int32) → (((0 : Int32) = (0 : Int32) ∨ (0 : Int32) = 1) ∧ Q (.inl (some (.int (0 : Int32)))) (HX I A B') 0)) ∧ (¬ (bI b) = (1 : Int32) → (((1 : Int32) = (0 : Int32) ∨ (1 : Int32) = 1) ∧ Q (.inl (some (.int (1 : Int32)))) (HX I A B') 0)))) ∧ (¬ (lg_cmp s t) = 0 → (((bI b) = (0 : Int32) → (((0 : Int32) = (0 : Int32) ∨ (0 : Int32) = 1) ∧ Q (.inl (some (.int (0 : Int32)))) (HX I A B') 0)) ∧ (¬ (bI b) = (0 : Int32) → (((1 : Int32) = (0 : Int32) ∨ (1 : Int32) = 1) ∧ Q (.inl (some (.int (1 : Int32)))) (HX I A B') 0)))))
  refine ⟨fun z => ?_, fun z => ?_⟩
  · rw [decide_eq_true ((lg_cmp_eq _ _).mp z)] at hq
    cases b with
    | true => exact br_y rfl ⟨Or.inl rfl, hq⟩
    | false => exact br_n (by decide) ⟨Or.inr rfl, hq⟩
  · rw [decide_eq_false (fun q => z ((lg_cmp_eq _ _).mpr q))] at hq
    cases b with
    | true => exact br_n (by decide) ⟨Or.inr rfl, hq⟩
    | false => exact br_y rfl ⟨Or.inl rfl, hq⟩
theorem p_M_parts_1 {I : Nat → Int32} {A : Nat → Nat → Int32} {B' : Nat → Nat → Int64} {Q : xQ} {x y : Nat} {b : Bool} (hx : x < 8) (hy : y < 8) (hq : Q (.inl (some (.int (bI (!decide (b = decide (pkg (B' 26 x) = pkg (B' 26 y)))))))) (HX I A B') 0) : xG tb_M_parts Q (27, [some (.ref 24), some (.int (nI x)), some (.int (nI y))], [.int (bI b)], (HX I A B'), 0) := by
  refine xG.go [6, 15, 33, 42] 60 ?_
  show (vp_in (nI x) 8 ∧ xG tb_M_parts Q (33, [some (.ref 24), some (.int (nI x)), some (.int (nI y))], [.long ((B' 26) (nI x).toNatClampNeg), .int (bI b)], (HX I A B'), 0))
  rw [nI_clamp (by omega)]
  refine ⟨vp_in_nI hx (by omega), ?_⟩
  refine xG.call (F := xRun tb_M_packageOf 3) rfl rfl (p_M_packageOf ?_)
  refine xG.go [6, 15, 33, 42] 60 ?_
  show (vp_in (nI y) 8 ∧ xG tb_M_parts Q (42, [some (.ref 24), some (.int (nI x)), some (.int (nI y))], [.long ((B' 26) (nI y).toNatClampNeg), .long (pkg (B' 26 x)), .int (bI b)], (HX I A B'), 0))
  rw [nI_clamp (by omega)]
  refine ⟨vp_in_nI hy (by omega), ?_⟩
  refine xG.call (F := xRun tb_M_packageOf 3) rfl rfl (p_M_packageOf ?_)
  exact p_M_parts_2 (a := 0) hq
theorem p_M_parts {I : Nat → Int32} {A : Nat → Nat → Int32} {B' : Nat → Nat → Int64} {Q : xQ} {x y : Nat} (hx : x < 8) (hy : y < 8) (hq : Q (.inl (some (.int (bI (!decide (decide (pkg (B' 25 x) = pkg (B' 25 y)) = decide (pkg (B' 26 x) = pkg (B' 26 y)))))))) (HX I A B') 0) : xRun tb_M_parts 3 [.ref 24, .int (nI x), .int (nI y)] (HX I A B') Q := by
  refine ⟨Nat.le_of_ble_eq_true rfl, ?_⟩
  refine xG.go [6, 15, 33, 42] 60 ?_
  show (vp_in (nI x) 8 ∧ xG tb_M_parts Q (6, [some (.ref 24), some (.int (nI x)), some (.int (nI y))], [.long ((B' 25) (nI x).toNatClampNeg)], (HX I A B'), 0))
  rw [nI_clamp (by omega)]
  refine ⟨vp_in_nI hx (by omega), ?_⟩
  refine xG.call (F := xRun tb_M_packageOf 3) rfl rfl (p_M_packageOf ?_)
  refine xG.go [6, 15, 33, 42] 60 ?_
  show (vp_in (nI y) 8 ∧ xG tb_M_parts Q (15, [some (.ref 24), some (.int (nI x)), some (.int (nI y))], [.long ((B' 25) (nI y).toNatClampNeg), .long (pkg (B' 25 x))], (HX I A B'), 0))
  rw [nI_clamp (by omega)]
  refine ⟨vp_in_nI hy (by omega), ?_⟩
  refine xG.call (F := xRun tb_M_packageOf 3) rfl rfl (p_M_packageOf ?_)
  refine xG.go [6, 15, 27, 33, 42] 60 ?_
  show (((lg_cmp (pkg (B' 25 x)) (pkg (B' 25 y))) = 0 → xG tb_M_parts Q (27, [some (.ref 24), some (.int (nI x)), some (.int (nI y))], [.int (1 : Int32)], (HX I A B'), 0)) ∧ (¬ (lg_cmp (pkg (B' 25 x)) (pkg (B' 25 y))) = 0 → xG tb_M_parts Q (27, [some (.ref 24), some (.int (nI x)), some (.int (nI y))], [.int (0 : Int32)], (HX I A B'), 0)))
  refine ⟨fun z => ?_, fun z => ?_⟩
  · rw [decide_eq_true ((lg_cmp_eq _ _).mp z)] at hq
    exact p_M_parts_1 (b := true) hx hy hq
  · rw [decide_eq_false (fun q => z ((lg_cmp_eq _ _).mpr q))] at hq
    exact p_M_parts_1 (b := false) hx hy hq
-- trouble, loop by loop
theorem e_1 (c : Nat) : (10000 : Int32) + 100 * nI c = tol 1 c 0 := by
  rw [← tol_eq]
  have e : (10000 : Int32) * nI 1 = 10000 := by decide
  have e' : nI 0 = 0 := rfl
  rw [e, e', Int32.add_zero]
theorem e_2 (c : Nat) : (20000 : Int32) + 100 * nI c = tol 2 c 0 := by
  rw [← tol_eq]
  have e : (10000 : Int32) * nI 2 = 20000 := by decide
  have e' : nI 0 = 0 := rfl
  rw [e, e', Int32.add_zero]
theorem e_5 (x y : Nat) : ((50000 : Int32) + 100 * nI x) + nI y = tol 5 x y := by
  rw [← tol_eq]
  have e : (10000 : Int32) * nI 5 = 50000 := by decide
  rw [e]
theorem p_M_tr1 {I : Nat → Int32} {A : Nat → Nat → Int32} {B B' : Nat → Nat → Int64} {Q : xQ} {n : Nat} {mc : Nat → Nat} {w2 w3 w4 : Option Value} (hS : vSame n mc A B B') (e0 : I 10 = nI n) : ∀ (k c : Nat), c + k = n → (¬ sc (g1 A B) k c = 0 → Q (.inl (some (.int (sc (g1 A B) k c)))) (HX I A B') 0) → (sc (g1 A B) k c = 0 → ∀ w, xG tb_M_trouble Q (50, [some (.ref 24), w, w2, w3, w4], [], (HX I A B'), 0)) → xG tb_M_trouble Q (2, [some (.ref 24), some (.int (nI c)), w2, w3, w4], [], (HX I A B'), 0)
  | 0, c, e, h1, h2 => by
    have h8 := hS.h8
    refine xG.go [2, 50, 60, 170, 231, 239, 248] 60 ?_
    show (((I 10) ≤ (nI c) → xG tb_M_trouble Q (50, [some (.ref 24), some (.int (nI c)), w2, w3, w4], [], (HX I A B'), 0)) ∧ (¬ (I 10) ≤ (nI c) → (vp_in (nI c) 8 ∧ ((((A 28) (nI c).toNatClampNeg) = 0 → xG tb_M_trouble Q (2, [some (.ref 24), some (.int ((nI c) + (1 : Int32))), w2, w3, w4], [], (HX I A B'), 0)) ∧ (¬ ((A 28) (nI c).toNatClampNeg) = 0 → (vp_in (nI c) 8 ∧ (vp_in (nI c) 8 ∧ (((lg_cmp ((B' 25) (nI c).toNatClampNeg) ((B' 26) (nI c).toNatClampNeg)) = 0 → xG tb_M_trouble Q (2, [some (.ref 24), some (.int ((nI c) + (1 : Int32))), w2, w3, w4], [], (HX I A B'), 0)) ∧ (¬ (lg_cmp ((B' 25) (nI c).toNatClampNeg) ((B' 26) (nI c).toNatClampNeg)) = 0 → Q (.inl (some (.int ((10000 : Int32) + ((100 : Int32) * (nI c)))))) (HX I A B') 0)))))))))
    rw [e0]
    exact br_y (nI_le (by omega) (by omega)) (h2 rfl _)
  | k + 1, c, e, h1, h2 => by
    have h8 := hS.h8
    obtain ⟨q1, q2, q3⟩ := hS.hc c (by omega)
    refine xG.go [2, 50, 60, 170, 231, 239, 248] 60 ?_
    show (((I 10) ≤ (nI c) → xG tb_M_trouble Q (50, [some (.ref 24), some (.int (nI c)), w2, w3, w4], [], (HX I A B'), 0)) ∧ (¬ (I 10) ≤ (nI c) → (vp_in (nI c) 8 ∧ ((((A 28) (nI c).toNatClampNeg) = 0 → xG tb_M_trouble Q (2, [some (.ref 24), some (.int ((nI c) + (1 : Int32))), w2, w3, w4], [], (HX I A B'), 0)) ∧ (¬ ((A 28) (nI c).toNatClampNeg) = 0 → (vp_in (nI c) 8 ∧ (vp_in (nI c) 8 ∧ (((lg_cmp ((B' 25) (nI c).toNatClampNeg) ((B' 26) (nI c).toNatClampNeg)) = 0 → xG tb_M_trouble Q (2, [some (.ref 24), some (.int ((nI c) + (1 : Int32))), w2, w3, w4], [], (HX I A B'), 0)) ∧ (¬ (lg_cmp ((B' 25) (nI c).toNatClampNeg) ((B' 26) (nI c).toNatClampNeg)) = 0 → Q (.inl (some (.int ((10000 : Int32) + ((100 : Int32) * (nI c)))))) (HX I A B') 0)))))))))
    rw [e0, nI_clamp (by omega), nI_1, q1, q2, q3, e_1]
    have hin : vp_in (nI c) 8 := vp_in_nI (by omega) (by omega)
    unfold sc at h1 h2
    refine br_n (nI_ge (by omega) (by omega)) ⟨hin, fun z => ?_, fun z => ⟨hin, hin, fun w => ?_, fun w => ?_⟩⟩
    · rw [show g1 A B c = 0 from if_neg (fun q => q.1 z), if_pos rfl] at h1 h2
      exact p_M_tr1 hS e0 k (c + 1) (by omega) h1 h2
    · rw [show g1 A B c = 0 from if_neg (fun q => q.2 ((lg_cmp_eq _ _).mp w).symm), if_pos rfl] at h1 h2
      exact p_M_tr1 hS e0 k (c + 1) (by omega) h1 h2
    · rw [show g1 A B c = tol 1 c 0 from if_pos ⟨z, fun q => w ((lg_cmp_eq _ _).mpr q.symm)⟩, if_neg (tol_ne (by omega) (by omega) (by omega) (by omega))] at h1
      exact h1 (tol_ne (by omega) (by omega) (by omega) (by omega))
theorem p_M_tr2 {I : Nat → Int32} {A : Nat → Nat → Int32} {B B' : Nat → Nat → Int64} {Q : xQ} {n : Nat} {mc : Nat → Nat} {w2 w3 w4 : Option Value} (hS : vSame n mc A B B') (e0 : I 10 = nI n) : ∀ (k c : Nat), c + k = 64 → (¬ sc (g2 A B mc n) k c = 0 → Q (.inl (some (.int (sc (g2 A B mc n) k c)))) (HX I A B') 0) → (sc (g2 A B mc n) k c = 0 → ∀ w, xG tb_M_trouble Q (109, [some (.ref 24), w, w2, w3, w4], [], (HX I A B'), 0)) → xG tb_M_trouble Q (52, [some (.ref 24), some (.int (nI c)), w2, w3, w4], [], (HX I A B'), 0)
  | 0, c, e, h1, h2 => by
    refine xG.go [52, 60, 109, 170, 231, 239, 248] 60 ?_
    show (((64 : Int32) ≤ (nI c) → xG tb_M_trouble Q (109, [some (.ref 24), some (.int (nI c)), w2, w3, w4], [], (HX I A B'), 0)) ∧ (¬ (64 : Int32) ≤ (nI c) → xG tb_M_trouble Q (60, [some (.ref 24), some (.int (nI c)), w2, w3, w4], [.int (nI c), .ref 24], (HX I A B'), 0)))
    exact br_y (nI_le (a := 64) (by omega) (by omega)) (h2 rfl _)
  | k + 1, c, e, h1, h2 => by
    have h8 := hS.h8
    refine xG.go [52, 60, 109, 170, 231, 239, 248] 60 ?_
    show (((64 : Int32) ≤ (nI c) → xG tb_M_trouble Q (109, [some (.ref 24), some (.int (nI c)), w2, w3, w4], [], (HX I A B'), 0)) ∧ (¬ (64 : Int32) ≤ (nI c) → xG tb_M_trouble Q (60, [some (.ref 24), some (.int (nI c)), w2, w3, w4], [.int (nI c), .ref 24], (HX I A B'), 0)))
    refine br_n (nI_ge (b := 64) (by omega) (by omega)) ?_
    refine xG.callV (F := xRun tb_M_isThere 2) (a := 24) rfl rfl rfl rfl (p_M_isThere h8 e0 hS.hr (by omega) ?_)
    refine xG.go [52, 60, 109, 170, 231, 239, 248] 60 ?_
    show (((bI (numB mc n c)) = 0 → xG tb_M_trouble Q (52, [some (.ref 24), some (.int ((nI c) + (1 : Int32))), w2, w3, w4], [], (HX I A B'), 0)) ∧ (¬ (bI (numB mc n c)) = 0 → (¬ (8 : Int32) = 0 ∧ (vp_in ((nI c) / (8 : Int32)) 8 ∧ ((((A 28) ((nI c) / (8 : Int32)).toNatClampNeg) = 0 → xG tb_M_trouble Q (52, [some (.ref 24), some (.int ((nI c) + (1 : Int32))), w2, w3, w4], [], (HX I A B'), 0)) ∧ (¬ ((A 28) ((nI c) / (8 : Int32)).toNatClampNeg) = 0 → (vp_in (nI c) 64 ∧ (vp_in (nI c) 64 ∧ (((lg_cmp ((B' 30) (nI c).toNatClampNeg) ((B' 31) (nI c).toNatClampNeg)) = 0 → xG tb_M_trouble Q (52, [some (.ref 24), some (.int ((nI c) + (1 : Int32))), w2, w3, w4], [], (HX I A B'), 0)) ∧ (¬ (lg_cmp ((B' 30) (nI c).toNatClampNeg) ((B' 31) (nI c).toNatClampNeg)) = 0 → Q (.inl (some (.int ((20000 : Int32) + ((100 : Int32) * (nI c)))))) (HX I A B') 0))))))))))
    rw [nI_1]
    have hin : vp_in (nI c) 64 := vp_in_nI (by omega) (by omega)
    unfold sc at h1 h2
    cases hn : numB mc n c with
    | false =>
      rw [show g2 A B mc n c = 0 from if_neg (fun q => by rw [hn] at q; cases q.1), if_pos rfl] at h1 h2
      exact br_y rfl (p_M_tr2 hS e0 k (c + 1) (by omega) h1 h2)
    | true =>
      obtain ⟨x1, x2, x3, x4, x5⟩ := hS.num hn
      obtain ⟨q1, q2, q3⟩ := hS.hc (c / 8) x1
      rw [d8 (by omega), nI_clamp (by omega), nI_clamp (by omega), x2, x3, q3, e_2]
      refine br_n (by decide) ⟨by decide, vp_in_nI (by omega) (by omega), fun z => ?_, fun z => ⟨hin, hin, fun w => ?_, fun w => ?_⟩⟩
      · rw [show g2 A B mc n c = 0 from if_neg (fun q => q.2.1 z), if_pos rfl] at h1 h2
        exact p_M_tr2 hS e0 k (c + 1) (by omega) h1 h2
      · rw [show g2 A B mc n c = 0 from if_neg (fun q => q.2.2 ((lg_cmp_eq _ _).mp w).symm), if_pos rfl] at h1 h2
        exact p_M_tr2 hS e0 k (c + 1) (by omega) h1 h2
      · rw [show g2 A B mc n c = tol 2 c 0 from if_pos ⟨hn, z, fun q => w ((lg_cmp_eq _ _).mpr q.symm)⟩, if_neg (tol_ne (by omega) (by omega) (by omega) (by omega))] at h1
        exact h1 (tol_ne (by omega) (by omega) (by omega) (by omega))
theorem p_M_tr3y {I : Nat → Int32} {A : Nat → Nat → Int32} {B B' : Nat → Nat → Int64} {Q : xQ} {n x : Nat} {mc : Nat → Nat} {w4 : Option Value} (hS : vSame n mc A B B') (e0 : I 10 = nI n) (hx : x < n) : ∀ (k y : Nat) (w4 : Option Value), y + k = n → (¬ sc (g3y B x) k y = 0 → Q (.inl (some (.int (sc (g3y B x) k y)))) (HX I A B') 0) → (sc (g3y B x) k y = 0 → ∀ w v, xG tb_M_trouble Q (118, [some (.ref 24), some (.int (nI 3)), some (.int (nI (x + 1))), w, v], [], (HX I A B'), 0)) → xG tb_M_trouble Q (130, [some (.ref 24), some (.int (nI 3)), some (.int (nI x)), some (.int (nI y)), w4], [], (HX I A B'), 0)
  | 0, y, w4, e, h1, h2 => by
    have h8 := hS.h8
    refine xG.go [60, 118, 130, 170, 173, 231, 239, 248] 60 ?_
    show (((I 10) ≤ (nI y) → xG tb_M_trouble Q (118, [some (.ref 24), some (.int (nI 3)), some (.int ((nI x) + (1 : Int32))), some (.int (nI y)), w4], [], (HX I A B'), 0)) ∧ (¬ (I 10) ≤ (nI y) → (((nI 3) = (3 : Int32) → (vp_in (nI x) 8 ∧ (vp_in (nI y) 8 ∧ (((lg_cmp ((B' 26) (nI x).toNatClampNeg) ((B' 26) (nI y).toNatClampNeg)) = 0 → xG tb_M_trouble Q (173, [some (.ref 24), some (.int (nI 3)), some (.int (nI x)), some (.int (nI y)), w4], [.int (1 : Int32)], (HX I A B'), 0)) ∧ (¬ (lg_cmp ((B' 26) (nI x).toNatClampNeg) ((B' 26) (nI y).toNatClampNeg)) = 0 → xG tb_M_trouble Q (173, [some (.ref 24), some (.int (nI 3)), some (.int (nI x)), some (.int (nI y)), w4], [.int (0 : Int32)], (HX I A B'), 0)))))) ∧ (¬ (nI 3) = (3 : Int32) → xG tb_M_trouble Q (170, [some (.ref 24), some (.int (nI 3)), some (.int (nI x)), some (.int (nI y)), w4], [.int (nI y), .int (nI x), .ref 24], (HX I A B'), 0)))))
    rw [e0, nI_1]
    exact br_y (nI_le (by omega) (by omega)) (h2 rfl _ _)
  | k + 1, y, w4, e, h1, h2 => by
    have h8 := hS.h8
    obtain ⟨q1, q2, q3⟩ := hS.hc x hx
    obtain ⟨r1, r2, r3⟩ := hS.hc y (by omega)
    refine xG.go [60, 118, 130, 170, 173, 231, 239, 248] 60 ?_
    show (((I 10) ≤ (nI y) → xG tb_M_trouble Q (118, [some (.ref 24), some (.int (nI 3)), some (.int ((nI x) + (1 : Int32))), some (.int (nI y)), w4], [], (HX I A B'), 0)) ∧ (¬ (I 10) ≤ (nI y) → (((nI 3) = (3 : Int32) → (vp_in (nI x) 8 ∧ (vp_in (nI y) 8 ∧ (((lg_cmp ((B' 26) (nI x).toNatClampNeg) ((B' 26) (nI y).toNatClampNeg)) = 0 → xG tb_M_trouble Q (173, [some (.ref 24), some (.int (nI 3)), some (.int (nI x)), some (.int (nI y)), w4], [.int (1 : Int32)], (HX I A B'), 0)) ∧ (¬ (lg_cmp ((B' 26) (nI x).toNatClampNeg) ((B' 26) (nI y).toNatClampNeg)) = 0 → xG tb_M_trouble Q (173, [some (.ref 24), some (.int (nI 3)), some (.int (nI x)), some (.int (nI y)), w4], [.int (0 : Int32)], (HX I A B'), 0)))))) ∧ (¬ (nI 3) = (3 : Int32) → xG tb_M_trouble Q (170, [some (.ref 24), some (.int (nI 3)), some (.int (nI x)), some (.int (nI y)), w4], [.int (nI y), .int (nI x), .ref 24], (HX I A B'), 0)))))
    rw [e0, nI_clamp (by omega), nI_clamp (by omega), q2, r2]
    unfold sc at h1 h2
    refine br_n (nI_ge (by omega) (by omega)) (br_y rfl ⟨vp_in_nI (by omega) (by omega), vp_in_nI (by omega) (by omega), fun z => ?_, fun z => ?_⟩)
    · refine xG.go [60, 118, 130, 170, 231, 239, 248] 60 ?_
      show (((1 : Int32) = 0 → xG tb_M_trouble Q (130, [some (.ref 24), some (.int (nI 3)), some (.int (nI x)), some (.int ((nI y) + (1 : Int32))), some (.int (1 : Int32))], [], (HX I A B'), 0)) ∧ (¬ (1 : Int32) = 0 → Q (.inl (some (.int ((((10000 : Int32) * (nI 3)) + ((100 : Int32) * (nI x))) + (nI y))))) (HX I A B') 0))
      rw [nI_1, tol_eq]
      rw [show g3y B x y = tol 3 x y from if_pos ((lg_cmp_eq _ _).mp z), if_neg (tol_ne (by omega) (by omega) (by omega) (by omega))] at h1
      exact br_n (by decide) (h1 (tol_ne (by omega) (by omega) (by omega) (by omega)))
    · refine xG.go [60, 118, 130, 170, 231, 239, 248] 60 ?_
      show (((0 : Int32) = 0 → xG tb_M_trouble Q (130, [some (.ref 24), some (.int (nI 3)), some (.int (nI x)), some (.int ((nI y) + (1 : Int32))), some (.int (0 : Int32))], [], (HX I A B'), 0)) ∧ (¬ (0 : Int32) = 0 → Q (.inl (some (.int ((((10000 : Int32) * (nI 3)) + ((100 : Int32) * (nI x))) + (nI y))))) (HX I A B') 0))
      rw [nI_1]
      rw [show g3y B x y = 0 from if_neg (fun q => z ((lg_cmp_eq _ _).mpr q)), if_pos rfl] at h1 h2
      exact br_y rfl (p_M_tr3y (w4 := none) hS e0 hx k (y + 1) _ (by omega) h1 h2)
theorem p_M_tr3 {I : Nat → Int32} {A : Nat → Nat → Int32} {B B' : Nat → Nat → Int64} {Q : xQ} {n : Nat} {mc : Nat → Nat} (hS : vSame n mc A B B') (e0 : I 10 = nI n) : ∀ (k x : Nat) (w3 w4 : Option Value), x + k = n → (¬ sc (g3 B n) k x = 0 → Q (.inl (some (.int (sc (g3 B n) k x)))) (HX I A B') 0) → (sc (g3 B n) k x = 0 → ∀ w2 w3 w4, xG tb_M_trouble Q (111, [some (.ref 24), some (.int (nI 4)), w2, w3, w4], [], (HX I A B'), 0)) → xG tb_M_trouble Q (118, [some (.ref 24), some (.int (nI 3)), some (.int (nI x)), w3, w4], [], (HX I A B'), 0)
  | 0, x, w3, w4, e, h1, h2 => by
    have h8 := hS.h8
    refine xG.go [60, 111, 118, 130, 170, 231, 239, 248] 60 ?_
    show (((I 10) ≤ (nI x) → xG tb_M_trouble Q (111, [some (.ref 24), some (.int ((nI 3) + (1 : Int32))), some (.int (nI x)), w3, w4], [], (HX I A B'), 0)) ∧ (¬ (I 10) ≤ (nI x) → xG tb_M_trouble Q (130, [some (.ref 24), some (.int (nI 3)), some (.int (nI x)), some (.int ((nI x) + (1 : Int32))), w4], [], (HX I A B'), 0)))
    rw [e0, nI_1]
    exact br_y (nI_le (by omega) (by omega)) (h2 rfl _ _ _)
  | k + 1, x, w3, w4, e, h1, h2 => by
    have h8 := hS.h8
    refine xG.go [60, 111, 118, 130, 170, 231, 239, 248] 60 ?_
    show (((I 10) ≤ (nI x) → xG tb_M_trouble Q (111, [some (.ref 24), some (.int ((nI 3) + (1 : Int32))), some (.int (nI x)), w3, w4], [], (HX I A B'), 0)) ∧ (¬ (I 10) ≤ (nI x) → xG tb_M_trouble Q (130, [some (.ref 24), some (.int (nI 3)), some (.int (nI x)), some (.int ((nI x) + (1 : Int32))), w4], [], (HX I A B'), 0)))
    rw [e0, show nI x + 1 = nI (x + 1) from nI_1 x]
    unfold sc at h1 h2
    refine br_n (nI_ge (by omega) (by omega)) (p_M_tr3y (x := x) (w4 := none) hS e0 (by omega) (n - (x + 1)) (x + 1) _ (by omega) (fun z => ?_) (fun z w v => ?_))
    · rw [if_neg (show ¬ g3 B n x = 0 from z)] at h1
      exact h1 z
    · rw [if_pos (show g3 B n x = 0 from z)] at h1 h2
      exact p_M_tr3 hS e0 k (x + 1) w v (by omega) h1 h2
theorem p_M_tr4y {I : Nat → Int32} {A : Nat → Nat → Int32} {B B' : Nat → Nat → Int64} {Q : xQ} {n x : Nat} {mc : Nat → Nat} (hS : vSame n mc A B B') (e0 : I 10 = nI n) (hx : x < n) : ∀ (k y : Nat) (w4 : Option Value), y + k = n → (¬ sc (g4y B x) k y = 0 → Q (.inl (some (.int (sc (g4y B x) k y)))) (HX I A B') 0) → (sc (g4y B x) k y = 0 → ∀ w v, xG tb_M_trouble Q (118, [some (.ref 24), some (.int (nI 4)), some (.int (nI (x + 1))), w, v], [], (HX I A B'), 0)) → xG tb_M_trouble Q (130, [some (.ref 24), some (.int (nI 4)), some (.int (nI x)), some (.int (nI y)), w4], [], (HX I A B'), 0)
  | 0, y, w4, e, h1, h2 => by
    have h8 := hS.h8
    refine xG.go [60, 118, 130, 170, 173, 231, 239, 248] 60 ?_
    show (((I 10) ≤ (nI y) → xG tb_M_trouble Q (118, [some (.ref 24), some (.int (nI 4)), some (.int ((nI x) + (1 : Int32))), some (.int (nI y)), w4], [], (HX I A B'), 0)) ∧ (¬ (I 10) ≤ (nI y) → (((nI 4) = (3 : Int32) → (vp_in (nI x) 8 ∧ (vp_in (nI y) 8 ∧ (((lg_cmp ((B' 26) (nI x).toNatClampNeg) ((B' 26) (nI y).toNatClampNeg)) = 0 → xG tb_M_trouble Q (173, [some (.ref 24), some (.int (nI 4)), some (.int (nI x)), some (.int (nI y)), w4], [.int (1 : Int32)], (HX I A B'), 0)) ∧ (¬ (lg_cmp ((B' 26) (nI x).toNatClampNeg) ((B' 26) (nI y).toNatClampNeg)) = 0 → xG tb_M_trouble Q (173, [some (.ref 24), some (.int (nI 4)), some (.int (nI x)), some (.int (nI y)), w4], [.int (0 : Int32)], (HX I A B'), 0)))))) ∧ (¬ (nI 4) = (3 : Int32) → xG tb_M_trouble Q (170, [some (.ref 24), some (.int (nI 4)), some (.int (nI x)), some (.int (nI y)), w4], [.int (nI y), .int (nI x), .ref 24], (HX I A B'), 0)))))
    rw [e0, nI_1]
    exact br_y (nI_le (by omega) (by omega)) (h2 rfl _ _)
  | k + 1, y, w4, e, h1, h2 => by
    have h8 := hS.h8
    obtain ⟨q1, q2, q3⟩ := hS.hc x hx
    obtain ⟨r1, r2, r3⟩ := hS.hc y (by omega)
    refine xG.go [60, 118, 130, 170, 173, 231, 239, 248] 60 ?_
    show (((I 10) ≤ (nI y) → xG tb_M_trouble Q (118, [some (.ref 24), some (.int (nI 4)), some (.int ((nI x) + (1 : Int32))), some (.int (nI y)), w4], [], (HX I A B'), 0)) ∧ (¬ (I 10) ≤ (nI y) → (((nI 4) = (3 : Int32) → (vp_in (nI x) 8 ∧ (vp_in (nI y) 8 ∧ (((lg_cmp ((B' 26) (nI x).toNatClampNeg) ((B' 26) (nI y).toNatClampNeg)) = 0 → xG tb_M_trouble Q (173, [some (.ref 24), some (.int (nI 4)), some (.int (nI x)), some (.int (nI y)), w4], [.int (1 : Int32)], (HX I A B'), 0)) ∧ (¬ (lg_cmp ((B' 26) (nI x).toNatClampNeg) ((B' 26) (nI y).toNatClampNeg)) = 0 → xG tb_M_trouble Q (173, [some (.ref 24), some (.int (nI 4)), some (.int (nI x)), some (.int (nI y)), w4], [.int (0 : Int32)], (HX I A B'), 0)))))) ∧ (¬ (nI 4) = (3 : Int32) → xG tb_M_trouble Q (170, [some (.ref 24), some (.int (nI 4)), some (.int (nI x)), some (.int (nI y)), w4], [.int (nI y), .int (nI x), .ref 24], (HX I A B'), 0)))))
    rw [e0]
    unfold sc at h1 h2
    refine br_n (nI_ge (by omega) (by omega)) (br_n (by decide) ?_)
    refine xG.callV (F := xRun tb_M_parts 3) (a := 24) rfl rfl rfl rfl (p_M_parts (by omega) (by omega) ?_)
    rw [q1, q2, r1, r2]
    by_cases z : decide (pkg (B 2 x) = pkg (B 2 y)) = decide (pkg (B 3 x) = pkg (B 3 y))
    · rw [decide_eq_true z]
      rw [show g4y B x y = 0 from if_pos z, if_pos rfl] at h1 h2
      refine xG.go [60, 118, 130, 170, 231, 239, 248] 60 ?_
      show (((0 : Int32) = 0 → xG tb_M_trouble Q (130, [some (.ref 24), some (.int (nI 4)), some (.int (nI x)), some (.int ((nI y) + (1 : Int32))), some (.int (0 : Int32))], [], (HX I A B'), 0)) ∧ (¬ (0 : Int32) = 0 → Q (.inl (some (.int ((((10000 : Int32) * (nI 4)) + ((100 : Int32) * (nI x))) + (nI y))))) (HX I A B') 0))
      rw [nI_1]
      exact br_y rfl (p_M_tr4y hS e0 hx k (y + 1) _ (by omega) h1 h2)
    · rw [decide_eq_false z]
      rw [show g4y B x y = tol 4 x y from if_neg z, if_neg (tol_ne (by omega) (by omega) (by omega) (by omega))] at h1
      refine xG.go [60, 118, 130, 170, 231, 239, 248] 60 ?_
      show (((1 : Int32) = 0 → xG tb_M_trouble Q (130, [some (.ref 24), some (.int (nI 4)), some (.int (nI x)), some (.int ((nI y) + (1 : Int32))), some (.int (1 : Int32))], [], (HX I A B'), 0)) ∧ (¬ (1 : Int32) = 0 → Q (.inl (some (.int ((((10000 : Int32) * (nI 4)) + ((100 : Int32) * (nI x))) + (nI y))))) (HX I A B') 0))
      rw [nI_1, tol_eq]
      exact br_n (by decide) (h1 (tol_ne (by omega) (by omega) (by omega) (by omega)))
theorem p_M_tr4 {I : Nat → Int32} {A : Nat → Nat → Int32} {B B' : Nat → Nat → Int64} {Q : xQ} {n : Nat} {mc : Nat → Nat} (hS : vSame n mc A B B') (e0 : I 10 = nI n) : ∀ (k x : Nat) (w3 w4 : Option Value), x + k = n → (¬ sc (g4 B n) k x = 0 → Q (.inl (some (.int (sc (g4 B n) k x)))) (HX I A B') 0) → (sc (g4 B n) k x = 0 → ∀ w2 w3 w4, xG tb_M_trouble Q (111, [some (.ref 24), some (.int (nI 5)), w2, w3, w4], [], (HX I A B'), 0)) → xG tb_M_trouble Q (118, [some (.ref 24), some (.int (nI 4)), some (.int (nI x)), w3, w4], [], (HX I A B'), 0)
  | 0, x, w3, w4, e, h1, h2 => by
    have h8 := hS.h8
    refine xG.go [60, 111, 118, 130, 170, 231, 239, 248] 60 ?_
    show (((I 10) ≤ (nI x) → xG tb_M_trouble Q (111, [some (.ref 24), some (.int ((nI 4) + (1 : Int32))), some (.int (nI x)), w3, w4], [], (HX I A B'), 0)) ∧ (¬ (I 10) ≤ (nI x) → xG tb_M_trouble Q (130, [some (.ref 24), some (.int (nI 4)), some (.int (nI x)), some (.int ((nI x) + (1 : Int32))), w4], [], (HX I A B'), 0)))
    rw [e0, nI_1]
    exact br_y (nI_le (by omega) (by omega)) (h2 rfl _ _ _)
  | k + 1, x, w3, w4, e, h1, h2 => by
    have h8 := hS.h8
    refine xG.go [60, 111, 118, 130, 170, 231, 239, 248] 60 ?_
    show (((I 10) ≤ (nI x) → xG tb_M_trouble Q (111, [some (.ref 24), some (.int ((nI 4) + (1 : Int32))), some (.int (nI x)), w3, w4], [], (HX I A B'), 0)) ∧ (¬ (I 10) ≤ (nI x) → xG tb_M_trouble Q (130, [some (.ref 24), some (.int (nI 4)), some (.int (nI x)), some (.int ((nI x) + (1 : Int32))), w4], [], (HX I A B'), 0)))
    rw [e0, show nI x + 1 = nI (x + 1) from nI_1 x]
    unfold sc at h1 h2
    refine br_n (nI_ge (by omega) (by omega)) (p_M_tr4y (x := x) hS e0 (by omega) (n - (x + 1)) (x + 1) _ (by omega) (fun z => ?_) (fun z w v => ?_))
    · rw [if_neg (show ¬ g4 B n x = 0 from z)] at h1
      exact h1 z
    · rw [if_pos (show g4 B n x = 0 from z)] at h1 h2
      exact p_M_tr4 hS e0 k (x + 1) w v (by omega) h1 h2
theorem p_M_tr5y {I : Nat → Int32} {A : Nat → Nat → Int32} {B B' : Nat → Nat → Int64} {Q : xQ} {n x : Nat} {mc : Nat → Nat} {w3 w4 : Option Value} (hS : vSame n mc A B B') (e0 : I 10 = nI n) (hx : x < 64) (hn : numB mc n x = true) : ∀ (k y : Nat), x ≤ y → y + k = 64 → (¬ sc (g5y A B mc n x) k y = 0 → Q (.inl (some (.int (sc (g5y A B mc n x) k y)))) (HX I A B') 0) → (sc (g5y A B mc n x) k y = 0 → ∀ w, xG tb_M_trouble Q (213, [some (.ref 24), some (.int (nI (x + 1))), w, w3, w4], [], (HX I A B'), 0)) → xG tb_M_trouble Q (223, [some (.ref 24), some (.int (nI x)), some (.int (nI y)), w3, w4], [], (HX I A B'), 0)
  | 0, y, _, e, h1, h2 => by
    refine xG.go [60, 170, 213, 223, 231, 239, 248] 60 ?_
    show (((64 : Int32) ≤ (nI y) → xG tb_M_trouble Q (213, [some (.ref 24), some (.int ((nI x) + (1 : Int32))), some (.int (nI y)), w3, w4], [], (HX I A B'), 0)) ∧ (¬ (64 : Int32) ≤ (nI y) → xG tb_M_trouble Q (231, [some (.ref 24), some (.int (nI x)), some (.int (nI y)), w3, w4], [.int (nI x), .ref 24], (HX I A B'), 0)))
    rw [nI_1]
    exact br_y (nI_le (a := 64) (by omega) (by omega)) (h2 rfl _)
  | k + 1, y, hxy, e, h1, h2 => by
    have h8 := hS.h8
    refine xG.go [60, 170, 213, 223, 231, 239, 248] 60 ?_
    show (((64 : Int32) ≤ (nI y) → xG tb_M_trouble Q (213, [some (.ref 24), some (.int ((nI x) + (1 : Int32))), some (.int (nI y)), w3, w4], [], (HX I A B'), 0)) ∧ (¬ (64 : Int32) ≤ (nI y) → xG tb_M_trouble Q (231, [some (.ref 24), some (.int (nI x)), some (.int (nI y)), w3, w4], [.int (nI x), .ref 24], (HX I A B'), 0)))
    refine br_n (nI_ge (b := 64) (by omega) (by omega)) ?_
    refine xG.callV (F := xRun tb_M_isThere 2) (a := 24) rfl rfl rfl rfl (p_M_isThere h8 e0 hS.hr (by omega) ?_)
    rw [hn]
    refine xG.go [60, 170, 213, 223, 231, 239, 248] 60 ?_
    show (((bI true) = 0 → xG tb_M_trouble Q (213, [some (.ref 24), some (.int ((nI x) + (1 : Int32))), some (.int (nI y)), w3, w4], [], (HX I A B'), 0)) ∧ (¬ (bI true) = 0 → xG tb_M_trouble Q (239, [some (.ref 24), some (.int (nI x)), some (.int (nI y)), w3, w4], [.int (nI y), .ref 24], (HX I A B'), 0)))
    refine br_n (by decide) ?_
    refine xG.callV (F := xRun tb_M_isThere 2) (a := 24) rfl rfl rfl rfl (p_M_isThere h8 e0 hS.hr (by omega) ?_)
    refine xG.go [60, 170, 213, 223, 231, 239, 248] 60 ?_
    show (((bI (numB mc n y)) = 0 → xG tb_M_trouble Q (223, [some (.ref 24), some (.int (nI x)), some (.int ((nI y) + (1 : Int32))), w3, w4], [], (HX I A B'), 0)) ∧ (¬ (bI (numB mc n y)) = 0 → xG tb_M_trouble Q (248, [some (.ref 24), some (.int (nI x)), some (.int (nI y)), w3, w4], [.int (nI y), .int (nI x), .ref 24], (HX I A B'), 0)))
    rw [nI_1]
    unfold sc at h1 h2
    cases hy : numB mc n y with
    | false =>
      rw [show g5y A B mc n x y = 0 from if_neg (fun q => by rw [hy] at q; cases q.1), if_pos rfl] at h1 h2
      exact br_y rfl (p_M_tr5y hS e0 hx hn k (y + 1) (by omega) (by omega) h1 h2)
    | true =>
      refine br_n (by decide) ?_
      refine xG.callV (F := xRun tb_M_meet 3) (a := 24) rfl rfl rfl rfl (p_M_meet hS hn hy hxy ?_)
      refine xG.go [60, 170, 213, 223, 231, 239, 248] 60 ?_
      show (((bI (decide (bec A B x y))) = 0 → xG tb_M_trouble Q (223, [some (.ref 24), some (.int (nI x)), some (.int ((nI y) + (1 : Int32))), w3, w4], [], (HX I A B'), 0)) ∧ (¬ (bI (decide (bec A B x y))) = 0 → Q (.inl (some (.int (((50000 : Int32) + ((100 : Int32) * (nI x))) + (nI y))))) (HX I A B') 0))
      rw [nI_1, e_5]
      by_cases z : bec A B x y
      · rw [decide_eq_true z]
        rw [show g5y A B mc n x y = tol 5 x y from if_pos ⟨hy, z⟩, if_neg (tol_ne (by omega) (by omega) (by omega) (by omega))] at h1
        exact br_n (by decide) (h1 (tol_ne (by omega) (by omega) (by omega) (by omega)))
      · rw [decide_eq_false z]
        rw [show g5y A B mc n x y = 0 from if_neg (fun q => z q.2), if_pos rfl] at h1 h2
        exact br_y rfl (p_M_tr5y hS e0 hx hn k (y + 1) (by omega) (by omega) h1 h2)
theorem g5y_out {A : Nat → Nat → Int32} {B : Nat → Nat → Int64} {mc : Nat → Nat} {n x j : Nat} (hj : 8 * n ≤ j) : g5y A B mc n x j = 0 := if_neg (fun q => by
  have := q.1
  unfold numB at this
  rw [Bool.and_eq_true, decide_eq_true_eq] at this
  have := this.1
  omega)
theorem numB_out {mc : Nat → Nat} {n j : Nat} (hj : 8 * n ≤ j) : numB mc n j = false := by
  unfold numB
  rw [decide_eq_false (by omega), Bool.false_and]
theorem g5_64 {A : Nat → Nat → Int32} {B : Nat → Nat → Int64} {mc : Nat → Nat} {n x : Nat} (h8 : n ≤ 8) (hx : x < 8 * n) : sc (g5y A B mc n x) (64 - (x + 1)) (x + 1) = sc (g5y A B mc n x) (8 * n - (x + 1)) (x + 1) := by
  have := sc_more (g := g5y A B mc n x) (l := 64 - 8 * n) (8 * n - (x + 1)) (x + 1) (fun j h1 h2 => g5y_out (by omega))
  rw [show 8 * n - (x + 1) + (64 - 8 * n) = 64 - (x + 1) by omega] at this
  exact this
theorem p_M_tr5 {I : Nat → Int32} {A : Nat → Nat → Int32} {B B' : Nat → Nat → Int64} {Q : xQ} {n : Nat} {mc : Nat → Nat} {w3 w4 : Option Value} (hS : vSame n mc A B B') (e0 : I 10 = nI n) : ∀ (k x : Nat) (w2 : Option Value), x + k = 64 → Q (.inl (some (.int (sc (g5 A B mc n) k x)))) (HX I A B') 0 → xG tb_M_trouble Q (213, [some (.ref 24), some (.int (nI x)), w2, w3, w4], [], (HX I A B'), 0)
  | 0, x, w2, e, hq => by
    refine xG.go [60, 170, 213, 223, 231, 239, 248] 60 ?_
    show (((64 : Int32) ≤ (nI x) → Q (.inl (some (.int (0 : Int32)))) (HX I A B') 0) ∧ (¬ (64 : Int32) ≤ (nI x) → xG tb_M_trouble Q (223, [some (.ref 24), some (.int (nI x)), some (.int ((nI x) + (1 : Int32))), w3, w4], [], (HX I A B'), 0)))
    exact br_y (nI_le (a := 64) (by omega) (by omega)) hq
  | k + 1, x, w2, e, hq => by
    have h8 := hS.h8
    refine xG.go [60, 170, 213, 223, 231, 239, 248] 60 ?_
    show (((64 : Int32) ≤ (nI x) → Q (.inl (some (.int (0 : Int32)))) (HX I A B') 0) ∧ (¬ (64 : Int32) ≤ (nI x) → xG tb_M_trouble Q (223, [some (.ref 24), some (.int (nI x)), some (.int ((nI x) + (1 : Int32))), w3, w4], [], (HX I A B'), 0)))
    rw [nI_1]
    unfold sc at hq
    refine br_n (nI_ge (b := 64) (by omega) (by omega)) ?_
    cases hn : numB mc n x with
    | false =>
      rw [show g5 A B mc n x = 0 from if_neg (by rw [hn]; decide), if_pos rfl] at hq
      refine xG.go [60, 170, 213, 223, 231, 239, 248] 60 ?_
      show (((64 : Int32) ≤ (nI (x + 1)) → xG tb_M_trouble Q (213, [some (.ref 24), some (.int ((nI x) + (1 : Int32))), some (.int (nI (x + 1))), w3, w4], [], (HX I A B'), 0)) ∧ (¬ (64 : Int32) ≤ (nI (x + 1)) → xG tb_M_trouble Q (231, [some (.ref 24), some (.int (nI x)), some (.int (nI (x + 1))), w3, w4], [.int (nI x), .ref 24], (HX I A B'), 0)))
      rw [nI_1]
      refine ⟨fun _ => p_M_tr5 hS e0 k (x + 1) _ (by omega) hq, fun _ => ?_⟩
      refine xG.callV (F := xRun tb_M_isThere 2) (a := 24) rfl rfl rfl rfl (p_M_isThere h8 e0 hS.hr (by omega) ?_)
      rw [hn]
      refine xG.go [60, 170, 213, 223, 231, 239, 248] 60 ?_
      show (((bI false) = 0 → xG tb_M_trouble Q (213, [some (.ref 24), some (.int ((nI x) + (1 : Int32))), some (.int (nI (x + 1))), w3, w4], [], (HX I A B'), 0)) ∧ (¬ (bI false) = 0 → xG tb_M_trouble Q (239, [some (.ref 24), some (.int (nI x)), some (.int (nI (x + 1))), w3, w4], [.int (nI (x + 1)), .ref 24], (HX I A B'), 0)))
      rw [nI_1]
      exact br_y rfl (p_M_tr5 hS e0 k (x + 1) _ (by omega) hq)
    | true =>
      have x1 : x < 8 * n := by
        rcases Nat.lt_or_ge x (8 * n) with q | q
        · exact q
        · rw [numB_out q] at hn; cases hn
      rw [show g5 A B mc n x = sc (g5y A B mc n x) (8 * n - (x + 1)) (x + 1) from if_pos hn] at hq
      refine p_M_tr5y hS e0 (by omega) hn (64 - (x + 1)) (x + 1) (by omega) (by omega) (fun z => ?_) (fun z w => ?_)
      · rw [g5_64 h8 x1] at z ⊢
        rw [if_neg z] at hq
        exact hq
      · rw [g5_64 h8 x1] at z
        rw [if_pos z] at hq
        exact p_M_tr5 hS e0 k (x + 1) w (by omega) hq
theorem sc_64 {g : Nat → Int32} {n : Nat} (h8 : n ≤ 8) (hg : ∀ j, 8 * n ≤ j → g j = 0) : sc g 64 0 = sc g (8 * n) 0 := by
  have := sc_more (g := g) (l := 64 - 8 * n) (8 * n) 0 (fun j h1 h2 => hg j (by omega))
  rw [show 8 * n + (64 - 8 * n) = 64 by omega] at this
  exact this
theorem p_M_trouble {I : Nat → Int32} {A : Nat → Nat → Int32} {B B' : Nat → Nat → Int64} {Q : xQ} {n : Nat} {mc : Nat → Nat} (hS : vSame n mc A B B') (e0 : I 10 = nI n) (hq : Q (.inl (some (.int (lea A B mc n)))) (HX I A B') 0) : xRun tb_M_trouble 5 [.ref 24] (HX I A B') Q := by
  have h8 := hS.h8
  unfold lea at hq
  have no : ∀ {r b : Int32}, ¬ r = 0 → orE r b = r := fun z => if_neg z
  have ye : ∀ {r b : Int32}, r = 0 → orE r b = b := fun z => if_pos z
  refine ⟨Nat.le_of_ble_eq_true rfl, ?_⟩
  refine xG.go [2, 60, 170, 231, 239, 248] 20 ?_
  show xG tb_M_trouble Q (2, [some (.ref 24), some (.int (nI 0)), none, none, none], [], (HX I A B'), 0)
  refine p_M_tr1 hS e0 n 0 (Nat.zero_add n) (fun z => by rw [no z] at hq; exact hq) (fun z w1 => ?_)
  rw [ye z] at hq
  refine xG.go [52, 60, 170, 231, 239, 248] 20 ?_
  show xG tb_M_trouble Q (52, [some (.ref 24), some (.int (nI 0)), none, none, none], [], (HX I A B'), 0)
  have e2 : sc (g2 A B mc n) 64 0 = sc (g2 A B mc n) (8 * n) 0 := sc_64 h8 (fun j hj => if_neg (fun q => by rw [numB_out hj] at q; cases q.1))
  refine p_M_tr2 hS e0 64 0 rfl (fun z => by rw [e2] at z ⊢; rw [no z] at hq; exact hq) (fun z w1 => ?_)
  rw [e2] at z
  rw [ye z] at hq
  refine xG.go [118, 60, 170, 231, 239, 248] 20 ?_
  show ((nI 4 < nI 3 → _) ∧ (¬ nI 4 < nI 3 → xG tb_M_trouble Q (118, [some (.ref 24), some (.int (nI 3)), some (.int (nI 0)), none, none], [], (HX I A B'), 0)))
  refine br_n (by decide) (p_M_tr3 hS e0 n 0 none none (Nat.zero_add n) (fun z => by rw [no z] at hq; exact hq) (fun z w2 w3 w4 => ?_))
  rw [ye z] at hq
  refine xG.go [118, 60, 170, 231, 239, 248] 20 ?_
  show ((nI 4 < nI 4 → _) ∧ (¬ nI 4 < nI 4 → xG tb_M_trouble Q (118, [some (.ref 24), some (.int (nI 4)), some (.int (nI 0)), w3, w4], [], (HX I A B'), 0)))
  refine br_n (by decide) (p_M_tr4 hS e0 n 0 w3 w4 (Nat.zero_add n) (fun z => by rw [no z] at hq; exact hq) (fun z w2 w3 w4 => ?_))
  rw [ye z] at hq
  refine xG.go [118, 213, 60, 170, 231, 239, 248] 20 ?_
  show ((nI 4 < nI 5 → xG tb_M_trouble Q (213, [some (.ref 24), some (.int (nI 0)), w2, w3, w4], [], (HX I A B'), 0)) ∧ (¬ nI 4 < nI 5 → _))
  refine br_y (by decide) (p_M_tr5 hS e0 64 0 w2 rfl ?_)
  rw [sc_64 (g := g5 A B mc n) h8 (fun j hj => if_neg (by rw [numB_out hj]; decide))]
  exact hq
theorem p_M_problem {I : Nat → Int32} {A : Nat → Nat → Int32} {B B' : Nat → Nat → Int64} {Q : xQ} {n : Nat} {mc : Nat → Nat} (hS : vSame n mc A B B') (e0 : I 10 = nI n) (hq : Q (.inl (some (.int (lea A B mc n)))) (HX (va_up I 9 0) A B') 0) : xRun tb_M_problem 1 [.ref 24] (HX I A B') Q := by
  refine ⟨Nat.le_of_ble_eq_true rfl, ?_⟩
  refine xG.go [6] 60 ?_
  show xG tb_M_problem Q (6, [some (.ref 24)], [.ref 24], (HX (va_up I 9 (0 : Int32)) A B'), 0)
  refine xG.callV (F := xRun tb_M_trouble 5) (a := 24) rfl rfl rfl rfl (p_M_trouble (I := va_up I 9 0) hS e0 ?_)
  generalize lea A B mc n = v at hq ⊢
  refine xG.go [6] 60 ?_
  show Q (.inl (some (.int v))) (HX (va_up I 9 (0 : Int32)) A B') 0
  exact hq
theorem p_N_problem {I : Nat → Int32} {A : Nat → Nat → Int32} {B : Nat → Nat → Int64} {Q : xQ} {n : Nat} {mc : Nat → Nat} (hS : vSame n mc A B B) (e0 : I 0 = nI n) (hq : Q (.inl (some (.int (lea A B mc n)))) (HX I A B) 0) : xRun tb_N_problem 1 [.ref 0] (HX I A B) Q := by
  refine ⟨Nat.le_of_ble_eq_true rfl, ?_⟩
  refine xG.go [4] 60 ?_
  show xG tb_N_problem Q (4, [some (.ref 0)], [.ref 1], (HX I A B), 0)
  refine xG.call (F := xRun tb_P_least 2) rfl rfl (p_P_least hS.h8 e0 hS.hm ?_)
  generalize lea A B mc n = v at hq ⊢
  refine xG.go [4] 60 ?_
  show Q (.inl (some (.int v))) (HX I A B) 0
  exact hq
