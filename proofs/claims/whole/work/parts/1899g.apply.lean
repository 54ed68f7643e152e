-- problem, apply
theorem j_problem : J_problem vInv := by
  intro I A B hV
  obtain ⟨n, mc, ⟨e0, e10⟩, hS⟩ := hV.same
  exact ⟨lea A B mc n, I, A, B, va_up I 9 0, A, B, fun Q hq => p_N_problem hS e0 hq, fun Q hq => p_M_problem hS e10 hq, hV⟩
theorem case_5 {L : Nat} {xs : Nat → Int32} : xCase vInv L xs 746 := lcase_5 j_problem
def tkB (B : Nat → Nat → Int64) : Nat → Nat → Int64 := va_up (va_up B 2 (va_cpy (B 3) (B 2) 0 0 8)) 8 (va_cpy (B 9) (B 8) 0 0 64)
def tmB (B : Nat → Nat → Int64) : Nat → Nat → Int64 := va_up (va_up B 25 (va_cpy (B 26) (B 25) 0 0 8)) 30 (va_cpy (B 31) (B 30) 0 0 64)
theorem p_S_takeNewNames {I : Nat → Int32} {A : Nat → Nat → Int32} {B : Nat → Nat → Int64} {Q : xQ} (hq : Q (.inl none) (HX I A (tkB B)) 0) : xRun tb_S_takeNewNames 1 [.ref 1] (HX I A B) Q := by
  refine ⟨Nat.le_of_ble_eq_true rfl, ?_⟩
  refine xG.go [] 30 ?_
  show (((¬ (0 : Int32) < 0 ∧ ¬ (0 : Int32) < 0 ∧ ¬ (8 : Int32) < 0) ∧ (0 : Int32).toNatClampNeg + (8 : Int32).toNatClampNeg ≤ 8 ∧ (0 : Int32).toNatClampNeg + (8 : Int32).toNatClampNeg ≤ 8) ∧ (((¬ (0 : Int32) < 0 ∧ ¬ (0 : Int32) < 0 ∧ ¬ (64 : Int32) < 0) ∧ (0 : Int32).toNatClampNeg + (64 : Int32).toNatClampNeg ≤ 64 ∧ (0 : Int32).toNatClampNeg + (64 : Int32).toNatClampNeg ≤ 64) ∧ Q (.inl none) (HX I A (va_up (va_up B 2 (va_cpy (B 3) (B 2) (0 : Int32).toNatClampNeg (0 : Int32).toNatClampNeg (8 : Int32).toNatClampNeg)) 8 (va_cpy (B 9) (B 8) (0 : Int32).toNatClampNeg (0 : Int32).toNatClampNeg (64 : Int32).toNatClampNeg))) 0))
  exact ⟨⟨⟨by decide, by decide, by decide⟩, by decide, by decide⟩, ⟨⟨by decide, by decide, by decide⟩, by decide, by decide⟩, hq⟩
theorem p_N_apply {I : Nat → Int32} {A : Nat → Nat → Int32} {B : Nat → Nat → Int64} {Q : xQ} {n : Nat} {mc : Nat → Nat} (hS : vSame n mc A B B) (e0 : I 0 = nI n) (h1 : ¬ lea A B mc n = 0 → Q (.inr 2) (HX I A B) 1) (h0 : lea A B mc n = 0 → Q (.inl (some (.int (nI (chg B mc n))))) (HX I A (tkB B)) 0) : xRun tb_N_apply 2 [.ref 0] (HX I A B) Q := by
  refine ⟨Nat.le_of_ble_eq_true rfl, ?_⟩
  refine xG.go [4, 24, 32] 60 ?_
  show xG tb_N_apply Q (4, [some (.ref 0), none], [.ref 1], (HX I A B), 0)
  refine xG.call (F := xRun tb_P_least 2) rfl rfl (p_P_least hS.h8 e0 hS.hm ?_)
  generalize lea A B mc n = v at h1 h0 ⊢
  refine xG.go [4, 24, 32] 60 ?_
  show ((v = 0 → xG tb_N_apply Q (24, [some (.ref 0), none], [.ref 1], (HX I A B), 0)) ∧ (¬ v = 0 → Q (.inr 2) (HX I A B) 1))
  refine ⟨fun z => ?_, fun z => h1 z⟩
  refine xG.callV (F := xRun tb_S_changedNames 3) (a := 1) rfl rfl rfl rfl (p_S_changedNames hS.h8 e0 hS.hm ?_)
  refine xG.go [4, 24, 32] 60 ?_
  show xG tb_N_apply Q (32, [some (.ref 0), some (.int (nI (chg B mc n)))], [.ref 1], (HX I A B), 0)
  refine xG.callV (F := xRun tb_S_takeNewNames 1) (a := 1) rfl rfl rfl rfl (p_S_takeNewNames ?_)
  refine xG.go [4, 24, 32] 30 ?_
  exact h0 z
theorem p_L_apply {I : Nat → Int32} {A : Nat → Nat → Int32} {B : Nat → Nat → Int64} {Q : xQ} {n : Nat} {mc : Nat → Nat} (hS : vSame n mc A B B) (e0 : I 0 = nI n) (h1 : ¬ lea A B mc n = 0 → Q (.inl (some (.int 1))) (HX I A B) 1) (h0 : lea A B mc n = 0 → Q (.inl (some (.int 0))) (HX I A (va_up (tkB B) 41 (vp_updL (B 41) 0 (nI (chg B mc n)).toInt64))) 0) : xRun tb_L_apply 3 [.ref 0, .ref 41] (HX I A B) Q := by
  refine ⟨Nat.le_of_ble_eq_true rfl, ?_⟩
  refine xG.go [3] 60 ?_
  show xG tb_L_apply Q (3, [some (.ref 0), some (.ref 41), none], [.ref 0, .int (0 : Int32), .ref 41], (HX I A B), 0)
  refine xG.callH (F := xRun tb_N_apply 2) (a := 0) rfl rfl rfl rfl (p_N_apply hS e0 (fun z => h1 z) (fun z => ?_))
  have hy := h0 z
  generalize nI (chg B mc n) = v at hy ⊢
  refine xG.go [3] 30 ?_
  exact ⟨vp_in_nI (n := 0) (by omega) (by omega), hy⟩
theorem p_M_apply1 {I : Nat → Int32} {A : Nat → Nat → Int32} {B : Nat → Nat → Int64} {Q : xQ} {x : Int32} : ∀ (k c : Nat) (f : Nat → Int64), c + k = 8 → xG tb_M_apply Q (56, [some (.ref 24), some (.int x), some (.int (nI 8))], [], (HX I A (va_up B 25 (va_cpy (B 26) f c c k))), 0) → xG tb_M_apply Q (32, [some (.ref 24), some (.int x), some (.int (nI c))], [], (HX I A (va_up B 25 f)), 0)
  | 0, c, f, h, hk => by
    obtain rfl : c = 8 := h
    refine xG.go [2, 26, 32, 56] 30 ?_
    show (((8 : Int32) ≤ (nI 8) → xG tb_M_apply Q (56, [some (.ref 24), some (.int x), some (.int (nI 8))], [], (HX I A (va_up B 25 f)), 0)) ∧ (¬ (8 : Int32) ≤ (nI 8) → (vp_in (nI 8) 8 ∧ (vp_in (nI 8) 8 ∧ xG tb_M_apply Q (32, [some (.ref 24), some (.int x), some (.int ((nI 8) + (1 : Int32)))], [], (HX I A (va_up B 25 (vp_updL f (nI 8).toNatClampNeg ((B 26) (nI 8).toNatClampNeg)))), 0)))))
    rw [cpy_0] at hk
    exact br_y (nI_le (a := 8) (b := 8) (by omega) (by omega)) hk
  | k + 1, c, f, h, hk => by
    refine xG.go [2, 26, 32, 56] 30 ?_
    show (((8 : Int32) ≤ (nI c) → xG tb_M_apply Q (56, [some (.ref 24), some (.int x), some (.int (nI c))], [], (HX I A (va_up B 25 f)), 0)) ∧ (¬ (8 : Int32) ≤ (nI c) → (vp_in (nI c) 8 ∧ (vp_in (nI c) 8 ∧ xG tb_M_apply Q (32, [some (.ref 24), some (.int x), some (.int ((nI c) + (1 : Int32)))], [], (HX I A (va_up B 25 (vp_updL f (nI c).toNatClampNeg ((B 26) (nI c).toNatClampNeg)))), 0)))))
    have hin : vp_in (nI c) 8 := vp_in_nI (by omega) (by omega)
    refine br_n (nI_ge (b := 8) (by omega) (by omega)) ⟨hin, hin, ?_⟩
    rw [nI_clamp (by omega), nI_1]
    refine p_M_apply1 k (c + 1) _ (by omega) ?_
    rw [cpy_s]
    exact hk
theorem p_M_apply2 {I : Nat → Int32} {A : Nat → Nat → Int32} {B : Nat → Nat → Int64} {Q : xQ} {x : Int32} {f : Nat → Int64} : ∀ (k c : Nat) (g : Nat → Int64), c + k = 64 → Q (.inl (some (.int x))) (HX I A (va_up (va_up B 25 f) 30 (va_cpy (B 31) g c c k))) 0 → xG tb_M_apply Q (58, [some (.ref 24), some (.int x), some (.int (nI c))], [], (HX I A (va_up (va_up B 25 f) 30 g)), 0)
  | 0, c, g, h, hk => by
    obtain rfl : c = 64 := h
    refine xG.go [2, 26, 58] 30 ?_
    show (((64 : Int32) ≤ (nI 64) → Q (.inl (some (.int x))) (HX I A (va_up (va_up B 25 f) 30 g)) 0) ∧ (¬ (64 : Int32) ≤ (nI 64) → (vp_in (nI 64) 64 ∧ (vp_in (nI 64) 64 ∧ xG tb_M_apply Q (58, [some (.ref 24), some (.int x), some (.int ((nI 64) + (1 : Int32)))], [], (HX I A (va_up (va_up B 25 f) 30 (vp_updL g (nI 64).toNatClampNeg ((B 31) (nI 64).toNatClampNeg)))), 0)))))
    rw [cpy_0] at hk
    exact br_y (nI_le (a := 64) (b := 64) (by omega) (by omega)) hk
  | k + 1, c, g, h, hk => by
    refine xG.go [2, 26, 58] 30 ?_
    show (((64 : Int32) ≤ (nI c) → Q (.inl (some (.int x))) (HX I A (va_up (va_up B 25 f) 30 g)) 0) ∧ (¬ (64 : Int32) ≤ (nI c) → (vp_in (nI c) 64 ∧ (vp_in (nI c) 64 ∧ xG tb_M_apply Q (58, [some (.ref 24), some (.int x), some (.int ((nI c) + (1 : Int32)))], [], (HX I A (va_up (va_up B 25 f) 30 (vp_updL g (nI c).toNatClampNeg ((B 31) (nI c).toNatClampNeg)))), 0)))))
    have hin : vp_in (nI c) 64 := vp_in_nI (by omega) (by omega)
    refine br_n (nI_ge (b := 64) (by omega) (by omega)) ⟨hin, hin, ?_⟩
    rw [nI_clamp (by omega), nI_1]
    refine p_M_apply2 k (c + 1) _ (by omega) ?_
    rw [cpy_s]
    exact hk
theorem p_M_apply {I : Nat → Int32} {A : Nat → Nat → Int32} {B B' : Nat → Nat → Int64} {Q : xQ} {n : Nat} {mc : Nat → Nat} (hS : vSame n mc A B B') (e0 : I 10 = nI n) (h1 : ¬ lea A B mc n = 0 → Q (.inl (some (.int 0))) (HX (va_up I 9 1) A B') 0) (h0 : lea A B mc n = 0 → Q (.inl (some (.int (nI (mtot B' mc 0 n))))) (HX (va_up I 9 0) A (tmB B')) 0) : xRun tb_M_apply 3 [.ref 24] (HX I A B') Q := by
  refine ⟨Nat.le_of_ble_eq_true rfl, ?_⟩
  refine xG.go [2, 26] 30 ?_
  show xG tb_M_apply Q (2, [some (.ref 24), none, none], [.ref 24, .ref 24], (HX I A B'), 0)
  refine xG.callV (F := xRun tb_M_trouble 5) (a := 24) rfl rfl rfl rfl (p_M_trouble hS e0 ?_)
  generalize lea A B mc n = v at h1 h0 ⊢
  refine xG.go [2, 26] 30 ?_
  show ((v = 0 → (((0 : Int32) ≤ 0 → xG tb_M_apply Q (26, [some (.ref 24), none, none], [.ref 24], (HX (va_up I 9 (0 : Int32)) A B'), 0)) ∧ (¬ (0 : Int32) ≤ 0 → Q (.inl (some (.int (0 : Int32)))) (HX (va_up I 9 (0 : Int32)) A B') 0))) ∧ (¬ v = 0 → (((1 : Int32) ≤ 0 → xG tb_M_apply Q (26, [some (.ref 24), none, none], [.ref 24], (HX (va_up I 9 (1 : Int32)) A B'), 0)) ∧ (¬ (1 : Int32) ≤ 0 → Q (.inl (some (.int (0 : Int32)))) (HX (va_up I 9 (1 : Int32)) A B') 0))))
  refine ⟨fun z => ?_, fun z => br_n (by decide) (h1 z)⟩
  refine br_y (by decide) ?_
  refine xG.callV (F := xRun tb_M_moves 4) (a := 24) rfl rfl rfl rfl (p_M_moves (I := va_up I 9 0) hS.h8 e0 hS.hr ?_)
  refine xG.go [2, 26, 32, 56, 58] 30 ?_
  show xG tb_M_apply Q (32, [some (.ref 24), some (.int (nI (mtot B' mc 0 n))), some (.int (nI 0))], [], (HX (va_up I 9 0) A (va_up B' 25 (B' 25))), 0)
  refine p_M_apply1 8 0 (B' 25) rfl ?_
  refine xG.go [2, 26, 32, 58] 30 ?_
  show xG tb_M_apply Q (58, [some (.ref 24), some (.int (nI (mtot B' mc 0 n))), some (.int (nI 0))], [], (HX (va_up I 9 0) A (va_up (va_up B' 25 (va_cpy (B' 26) (B' 25) 0 0 8)) 30 (B' 30))), 0)
  exact p_M_apply2 64 0 (B' 30) rfl (h0 z)
theorem orE_0 {a b : Int32} (h : orE a b = 0) : a = 0 ∧ b = 0 := by
  unfold orE at h
  by_cases w : a = 0
  · rw [if_pos w] at h; exact ⟨w, h⟩
  · rw [if_neg w] at h; exact absurd h w
theorem lea_3 {A : Nat → Nat → Int32} {B : Nat → Nat → Int64} {mc : Nat → Nat} {n : Nat} (h8 : n ≤ 8) (h : lea A B mc n = 0) {x y : Nat} (hx : x < y) (hy : y < n) : ¬ B 3 x = B 3 y := fun z => by
  have h3 := (orE_0 (orE_0 (orE_0 h).2).2).1
  have q := sc_none n 0 h3 x (by omega) (by omega)
  have q2 := sc_none _ _ q y (by omega) (by omega)
  rw [show g3y B x y = tol 3 x y from if_pos z] at q2
  exact tol_ne (by omega) (by omega) (by omega) (by omega) q2
theorem lea_5 {A : Nat → Nat → Int32} {B : Nat → Nat → Int64} {mc : Nat → Nat} {n : Nat} (h8 : n ≤ 8) (h : lea A B mc n = 0) {x y : Nat} (hxy : x < y) (hx : numB mc n x = true) (hy : numB mc n y = true) : ¬ bec A B x y := fun z => by
  have y1 : y < 8 * n := by
    rcases Nat.lt_or_ge y (8 * n) with q | q
    · exact q
    · rw [numB_out q] at hy; cases hy
  have h5 := (orE_0 (orE_0 (orE_0 (orE_0 h).2).2).2).2
  have q := sc_none (8 * n) 0 h5 x (by omega) (by omega)
  rw [show g5 A B mc n x = sc (g5y A B mc n x) (8 * n - (x + 1)) (x + 1) from if_pos hx] at q
  have q2 := sc_none _ _ q y (by omega) (by omega)
  rw [show g5y A B mc n x y = tol 5 x y from if_pos ⟨hy, z⟩] at q2
  exact tol_ne (by omega) (by omega) (by omega) (by omega) q2
theorem numB_ck {mc : Nat → Nat} {n c k : Nat} (hc : c < n) (hk : k < mc c) (h6 : mc c ≤ 6) : numB mc n (8 * c + k) = true := by
  unfold numB
  have e1 : (8 * c + k) / 8 = c := by omega
  have e2 : (8 * c + k) % 8 = k := by omega
  rw [e1, e2, decide_eq_true hc, decide_eq_true hk]
  rfl
theorem vInv.apply {I : Nat → Int32} {A : Nat → Nat → Int32} {B : Nat → Nat → Int64} {n : Nat} {mc : Nat → Nat} {f : Nat → Int64} (h : vInv I A B) (e0 : I 0 = nI n) (hS : vSame n mc A B B) (hl : lea A B mc n = 0) : vInv (va_up I 9 0) A (tmB (va_up (tkB B) 41 f)) := by
  obtain ⟨n', mc', sz, h1, h2, h3, h4, h5, h6⟩ := h
  have h8 := hS.h8
  obtain rfl : n = n' := (nI_eq (by omega) (by omega)).mp (e0.symm.trans h1.2.1)
  have em : ∀ c, c < n → mc c = mc' c := fun c hc => (nI_eq (by have := (hS.hm c hc).1; omega) (by have := (h2 c hc).2.2.2.1; omega)).mp ((hS.hm c hc).2.symm.trans (h2 c hc).2.2.2.2.1)
  have c8 : ∀ {f g : Nat → Int64} {c : Nat}, c < n → va_cpy f g 0 0 8 c = f c := fun hc => cpy_in (by omega)
  have c64 : ∀ {f g : Nat → Int64} {c k : Nat}, c < n → k < mc' c → va_cpy f g 0 0 64 (8 * c + k) = f (8 * c + k) := fun {f g c k} hc hk => cpy_in (by have := (h2 c hc).2.2.2.1; omega)
  refine ⟨n, mc', sz, h1, fun c hc => ?_, fun c k hc hk => ?_, fun c d hc hd => ?_, ⟨fun c k l hc hk hl' => ?_, fun c hc => ?_, fun c k hc hk => ?_⟩, h6⟩
  · obtain ⟨⟨a1, a2, a3⟩, a4⟩ := h2 c hc
    refine ⟨⟨?_, a2, a3⟩, a4⟩
    show va_cpy (B 26) (B 25) 0 0 8 c = va_cpy (B 3) (B 2) 0 0 8 c
    rw [c8 hc, c8 hc]
    exact a2
  · obtain ⟨⟨a1, a2, a3⟩, a4⟩ := h3 c k hc hk
    refine ⟨⟨?_, a2, a3⟩, a4⟩
    show va_cpy (B 31) (B 30) 0 0 64 (8 * c + k) = va_cpy (B 9) (B 8) 0 0 64 (8 * c + k)
    rw [c64 hc hk, c64 hc hk]
    exact a2
  · show va_cpy (B 3) (B 2) 0 0 8 c = va_cpy (B 3) (B 2) 0 0 8 d → c = d
    rw [c8 hc, c8 hd]
    intro z
    rcases Nat.lt_trichotomy c d with q | q | q
    · exact absurd z (lea_3 h8 hl q hd)
    · exact q
    · exact absurd z.symm (lea_3 h8 hl q hc)
  · show va_cpy (B 9) (B 8) 0 0 64 (8 * c + k) = va_cpy (B 9) (B 8) 0 0 64 (8 * c + l) → B 10 (8 * c + k) = B 10 (8 * c + l) → k = l
    rw [c64 hc hk, c64 hc hl']
    intro z1 z2
    have m6 := (h2 c hc).2.2.2.1
    have key : ∀ k l, k < mc' c → l < mc' c → k < l → B 9 (8 * c + k) = B 9 (8 * c + l) → B 10 (8 * c + k) = B 10 (8 * c + l) → False := fun k l hk hl' w z1 z2 => by
      have hb : ¬ bec A B (8 * c + k) (8 * c + l) := lea_5 h8 hl (by omega) (numB_ck hc (by rw [em c hc]; exact hk) (hS.hm c hc).1) (numB_ck hc (by rw [em c hc]; exact hl') (hS.hm c hc).1)
      refine hb ⟨?_, z2, z1, fun z3 => ?_⟩
      · rw [show (8 * c + k) / 8 = c by omega, show (8 * c + l) / 8 = c by omega]
        exact sAn_self A c
      · have := h5.1 c k l hc hk hl' z3 z2
        omega
    rcases Nat.lt_trichotomy k l with q | q | q
    · exact (key k l hk hl' q z1 z2).elim
    · exact q
    · exact (key l k hl' hk q z1.symm z2.symm).elim
  · refine ⟨?_, (h5.2.1 c hc).2.1, (h5.2.1 c hc).2.2⟩
    show okT (va_cpy (B 3) (B 2) 0 0 8 c)
    rw [c8 hc]
    exact (h5.2.1 c hc).2.1
  · refine ⟨?_, (h5.2.2 c k hc hk).2.1, (h5.2.2 c k hc hk).2.2⟩
    show okT (va_cpy (B 9) (B 8) 0 0 64 (8 * c + k))
    rw [c64 hc hk]
    exact (h5.2.2 c k hc hk).2.1
theorem j_apply : J_apply vInv := by
  intro I A B hV
  obtain ⟨n, mc, ⟨e0, e10⟩, hS⟩ := hV.same
  by_cases w : lea A B mc n = 0
  · have e : mtot B mc 0 n = chg B mc n := mtot_chg (fun c hc => (hS.hm c hc).1) (fun c hc => ⟨(hS.hc c hc).1, (hS.hc c hc).2.1⟩) (fun c k hc hk => ⟨(hS.hB c k hc hk).1, (hS.hB c k hc hk).2.1⟩) n 0 (Nat.zero_add n)
    have e' : mtot (va_up (tkB B) 41 (vp_updL (B 41) 0 (nI (chg B mc n)).toInt64)) mc 0 n = chg B mc n := (mtot_ext (B := B) (B' := va_up (tkB B) 41 (vp_updL (B 41) 0 (nI (chg B mc n)).toInt64)) rfl rfl rfl rfl n 0).trans e
    have hS' : vSame n mc A B (va_up (tkB B) 41 (vp_updL (B 41) 0 (nI (chg B mc n)).toInt64)) := hS
    refine ⟨0, I, A, _, 0, nI (chg B mc n), va_up I 9 0, A, _, fun Q hq => p_L_apply hS e0 (fun z => absurd w z) (fun _ => hq), Nat.zero_le 1, fun Q hq => p_M_apply hS' e10 (fun z => absurd w z) (fun _ => by rw [e']; exact hq), rfl, fun _ => ?_, hV.apply e0 hS w⟩
    show vp_updL (B 41) 0 (nI (chg B mc n)).toInt64 0 = _
    exact pk_uLs
  · exact ⟨1, I, A, B, 1, 0, va_up I 9 1, A, B, fun Q hq => p_L_apply hS e0 (fun _ => hq) (fun z => absurd z w), Nat.le_refl 1, fun Q hq => p_M_apply hS e10 (fun _ => hq) (fun z => absurd z w), rfl, fun z => absurd z (by decide), hV⟩
theorem case_6 {L : Nat} {xs : Nat → Int32} : xCase vInv L xs 759 := lcase_6 j_apply
