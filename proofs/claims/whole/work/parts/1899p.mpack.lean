-- movePackage, the reference's side
theorem p_M_mp_end0 {I : Nat → Int32} {A : Nat → Nat → Int32} {B : Nat → Nat → Int64} {Q : xQ} {fr to : Int64} {x6 : Int32} {w7 w8 : Option Value} (hq : Q (.inl (some (.int 0))) (HX (va_up I 9 1) A B) 0) : xG tb_M_movePackage Q (112, [some (.ref 24), some (.long fr), none, some (.long to), none, some (.int 0), some (.int x6), w7, w8], [], (HX I A B), 0) := by
  refine xG.go [8, 22, 72, 88, 136, 162, 196] 60 ?_
  show (((0 : Int32) = 0 → (((0 : Int32) = 0 → Q (.inl (some (.int (0 : Int32)))) (HX (va_up I 9 (1 : Int32)) A B) 0) ∧ (¬ (0 : Int32) = 0 → xG tb_M_movePackage Q (136, [some (.ref 24), some (.long fr), none, some (.long to), none, some (.int (0 : Int32)), some (.int x6), some (.int (0 : Int32)), w8], [], (HX (va_up I 9 (1 : Int32)) A B), 0)))) ∧ (¬ (0 : Int32) = 0 → (((0 : Int32) = 0 → Q (.inl (some (.int (0 : Int32)))) (HX (va_up I 9 (0 : Int32)) A B) 0) ∧ (¬ (0 : Int32) = 0 → xG tb_M_movePackage Q (136, [some (.ref 24), some (.long fr), none, some (.long to), none, some (.int (0 : Int32)), some (.int x6), some (.int (0 : Int32)), w8], [], (HX (va_up I 9 (0 : Int32)) A B), 0)))))
  exact br_y rfl (br_y rfl hq)
theorem p_M_mp1 {I : Nat → Int32} {A : Nat → Nat → Int32} {B : Nat → Nat → Int64} {Q : xQ} {n : Nat} {fr to : Int64} {w8 : Option Value} (h8 : n ≤ 8) (e0 : I 10 = nI n) (hc : ∀ c, c < n → B 25 c = B 2 c ∧ A 28 c = A 5 c ∧ okT (B 2 c)) (hto : to = 0 ∨ okT to) : ∀ (k c r : Nat), c + k = n → (fitB A B fr to k c = false → Q (.inl (some (.int 0))) (HX (va_up I 9 1) A B) 0) → (fitB A B fr to k c = true → ∀ w7, xG tb_M_movePackage Q (112, [some (.ref 24), some (.long fr), none, some (.long to), none, some (.int 1), some (.int (nI (r + cgo (goB A B fr) k c))), w7, w8], [], (HX I A B), 0)) → xG tb_M_movePackage Q (41, [some (.ref 24), some (.long fr), none, some (.long to), none, some (.int 1), some (.int (nI r)), some (.int (nI c)), w8], [], (HX I A B), 0)
  | 0, c, r, e, h1, h2 => by
    refine xG.go [8, 22, 41, 72, 88, 112, 162, 196] 60 ?_
    show (((I 10) ≤ (nI c) → xG tb_M_movePackage Q (112, [some (.ref 24), some (.long fr), none, some (.long to), none, some (.int (1 : Int32)), some (.int (nI r)), some (.int (nI c)), w8], [], (HX I A B), 0)) ∧ (¬ (I 10) ≤ (nI c) → (((1 : Int32) = 0 → xG tb_M_movePackage Q (112, [some (.ref 24), some (.long fr), none, some (.long to), none, some (.int (1 : Int32)), some (.int (nI r)), some (.int (nI c)), w8], [], (HX I A B), 0)) ∧ (¬ (1 : Int32) = 0 → (vp_in (nI c) 8 ∧ ((((A 28) (nI c).toNatClampNeg) = 0 → (vp_in (nI c) 8 ∧ xG tb_M_movePackage Q (72, [some (.ref 24), some (.long fr), none, some (.long to), none, some (.int (1 : Int32)), some (.int (nI r)), some (.int (nI c)), w8], [.long ((B 25) (nI c).toNatClampNeg)], (HX I A B), 0))) ∧ (¬ ((A 28) (nI c).toNatClampNeg) = 0 → xG tb_M_movePackage Q (41, [some (.ref 24), some (.long fr), none, some (.long to), none, some (.int (1 : Int32)), some (.int (nI r)), some (.int ((nI c) + (1 : Int32))), w8], [], (HX I A B), 0))))))))
    rw [e0]
    exact br_y (nI_le (by omega) (by omega)) (h2 rfl _)
  | k + 1, c, r, e, h1, h2 => by
    obtain ⟨q1, q2, q3⟩ := hc c (by omega)
    refine xG.go [8, 22, 41, 72, 88, 112, 162, 196] 60 ?_
    show (((I 10) ≤ (nI c) → xG tb_M_movePackage Q (112, [some (.ref 24), some (.long fr), none, some (.long to), none, some (.int (1 : Int32)), some (.int (nI r)), some (.int (nI c)), w8], [], (HX I A B), 0)) ∧ (¬ (I 10) ≤ (nI c) → (((1 : Int32) = 0 → xG tb_M_movePackage Q (112, [some (.ref 24), some (.long fr), none, some (.long to), none, some (.int (1 : Int32)), some (.int (nI r)), some (.int (nI c)), w8], [], (HX I A B), 0)) ∧ (¬ (1 : Int32) = 0 → (vp_in (nI c) 8 ∧ ((((A 28) (nI c).toNatClampNeg) = 0 → (vp_in (nI c) 8 ∧ xG tb_M_movePackage Q (72, [some (.ref 24), some (.long fr), none, some (.long to), none, some (.int (1 : Int32)), some (.int (nI r)), some (.int (nI c)), w8], [.long ((B 25) (nI c).toNatClampNeg)], (HX I A B), 0))) ∧ (¬ ((A 28) (nI c).toNatClampNeg) = 0 → xG tb_M_movePackage Q (41, [some (.ref 24), some (.long fr), none, some (.long to), none, some (.int (1 : Int32)), some (.int (nI r)), some (.int ((nI c) + (1 : Int32))), w8], [], (HX I A B), 0))))))))
    rw [e0, nI_clamp (by omega), nI_1, q1, q2]
    have hin : vp_in (nI c) 8 := vp_in_nI (by omega) (by omega)
    unfold fitB at h1 h2
    unfold cgo at h2
    refine br_n (nI_ge (by omega) (by omega)) (br_n (by decide) ⟨hin, fun z => ⟨hin, ?_⟩, fun z => ?_⟩)
    · refine xG.call (F := xRun tb_M_packageOf 3) rfl rfl (p_M_packageOf ?_)
      refine xG.go [8, 22, 41, 72, 88, 112, 162, 196] 60 ?_
      show (((lg_cmp (pkg (B 2 c)) fr) = 0 → (vp_in (nI c) 8 ∧ xG tb_M_movePackage Q (88, [some (.ref 24), some (.long fr), none, some (.long to), none, some (.int (1 : Int32)), some (.int (nI r)), some (.int (nI c)), w8], [.long to, .long ((B 25) (nI c).toNatClampNeg)], (HX I A B), 0))) ∧ (¬ (lg_cmp (pkg (B 2 c)) fr) = 0 → xG tb_M_movePackage Q (41, [some (.ref 24), some (.long fr), none, some (.long to), none, some (.int (1 : Int32)), some (.int (nI r)), some (.int ((nI c) + (1 : Int32))), w8], [], (HX I A B), 0)))
      rw [nI_clamp (by omega), nI_1, q1]
      refine ⟨fun w => ⟨hin, ?_⟩, fun w => ?_⟩
      · have hg : goB A B fr c = true := decide_eq_true ⟨z, (lg_cmp_eq _ _).mp w⟩
        rw [hg, if_pos rfl, ← Nat.add_assoc] at h2
        refine xG.call (F := xRun tb_M_withPackage 11) rfl rfl (p_M_withPackage (by have := okT_ls q3; have := (okT_len q3).2.2.1; omega) ?_)
        rw [inP_wi q3 hto]
        refine xG.go [8, 22, 41, 72, 88, 112, 162, 196] 60 ?_
        show (((lg_cmp (inP (B 2 c) to) (0 : Int64)) = 0 → xG tb_M_movePackage Q (41, [some (.ref 24), some (.long fr), none, some (.long to), none, some (.int (0 : Int32)), some (.int ((nI r) + (1 : Int32))), some (.int ((nI c) + (1 : Int32))), w8], [], (HX I A B), 0)) ∧ (¬ (lg_cmp (inP (B 2 c) to) (0 : Int64)) = 0 → xG tb_M_movePackage Q (41, [some (.ref 24), some (.long fr), none, some (.long to), none, some (.int (1 : Int32)), some (.int ((nI r) + (1 : Int32))), some (.int ((nI c) + (1 : Int32))), w8], [], (HX I A B), 0)))
        rw [nI_1, nI_1]
        refine ⟨fun v => ?_, fun v => ?_⟩
        · rw [if_pos ⟨hg, (lg_cmp_eq _ _).mp v⟩] at h1
          refine xG.go [8, 22, 50, 72, 88, 112, 162, 196] 60 ?_
          show (((I 10) ≤ (nI (c + 1)) → xG tb_M_movePackage Q (112, [some (.ref 24), some (.long fr), none, some (.long to), none, some (.int (0 : Int32)), some (.int (nI (r + 1))), some (.int (nI (c + 1))), w8], [], (HX I A B), 0)) ∧ (¬ (I 10) ≤ (nI (c + 1)) → xG tb_M_movePackage Q (50, [some (.ref 24), some (.long fr), none, some (.long to), none, some (.int (0 : Int32)), some (.int (nI (r + 1))), some (.int (nI (c + 1))), w8], [], (HX I A B), 0)))
          rw [e0]
          refine ⟨fun _ => p_M_mp_end0 (h1 rfl), fun _ => ?_⟩
          refine xG.go [8, 22, 55, 72, 88, 112, 162, 196] 60 ?_
          show (((0 : Int32) = 0 → xG tb_M_movePackage Q (112, [some (.ref 24), some (.long fr), none, some (.long to), none, some (.int (0 : Int32)), some (.int (nI (r + 1))), some (.int (nI (c + 1))), w8], [], (HX I A B), 0)) ∧ (¬ (0 : Int32) = 0 → xG tb_M_movePackage Q (55, [some (.ref 24), some (.long fr), none, some (.long to), none, some (.int (0 : Int32)), some (.int (nI (r + 1))), some (.int (nI (c + 1))), w8], [], (HX I A B), 0)))
          exact br_y rfl (p_M_mp_end0 (h1 rfl))
        · rw [if_neg (fun q => v ((lg_cmp_eq _ _).mpr q.2))] at h1 h2
          exact p_M_mp1 h8 e0 hc hto k (c + 1) (r + 1) (by omega) h1 h2
      · have hg : goB A B fr c = false := decide_eq_false (fun q => w ((lg_cmp_eq _ _).mpr q.2))
        rw [hg, if_neg (fun q => by cases q.1)] at h1
        rw [hg, if_neg (fun q => by cases q.1), if_neg (by decide), Nat.zero_add] at h2
        exact p_M_mp1 h8 e0 hc hto k (c + 1) r (by omega) h1 h2
    · have hg : goB A B fr c = false := decide_eq_false (fun q => z q.1)
      rw [hg, if_neg (fun q => by cases q.1)] at h1
      rw [hg, if_neg (fun q => by cases q.1), if_neg (by decide), Nat.zero_add] at h2
      exact p_M_mp1 h8 e0 hc hto k (c + 1) r (by omega) h1 h2
theorem p_M_mp2 {I : Nat → Int32} {A : Nat → Nat → Int32} {B : Nat → Nat → Int64} {Q : xQ} {n : Nat} {fr to : Int64} {x5 x6 : Int32} (h8 : n ≤ 8) (e0 : I 10 = nI n) (hc : ∀ c, c < n → B 25 c = B 2 c ∧ A 28 c = A 5 c ∧ okT (B 2 c)) (hto : to = 0 ∨ okT to) : ∀ (k c : Nat) (f : Nat → Int64) (w8 : Option Value), c + k = n → Q (.inl (some (.int x6))) (HX I A (va_up B 26 (rnM (goB A B fr) (fun j => inP (B 2 j) to) f c k))) 0 → xG tb_M_movePackage Q (136, [some (.ref 24), some (.long fr), none, some (.long to), none, some (.int x5), some (.int x6), some (.int (nI c)), w8], [], HX I A (va_up B 26 f), 0)
  | 0, c, f, w8, e, hq => by
    refine xG.go [8, 22, 72, 88, 136, 162, 196] 60 ?_
    show (((I 10) ≤ (nI c) → Q (.inl (some (.int x6))) (HX I A (va_up B 26 f)) 0) ∧ (¬ (I 10) ≤ (nI c) → (vp_in (nI c) 8 ∧ ((((A 28) (nI c).toNatClampNeg) = 0 → (vp_in (nI c) 8 ∧ xG tb_M_movePackage Q (162, [some (.ref 24), some (.long fr), none, some (.long to), none, some (.int x5), some (.int x6), some (.int (nI c)), w8], [.long ((B 25) (nI c).toNatClampNeg)], (HX I A (va_up B 26 f)), 0))) ∧ (¬ ((A 28) (nI c).toNatClampNeg) = 0 → (((0 : Int32) = 0 → xG tb_M_movePackage Q (136, [some (.ref 24), some (.long fr), none, some (.long to), none, some (.int x5), some (.int x6), some (.int ((nI c) + (1 : Int32))), some (.int (0 : Int32))], [], (HX I A (va_up B 26 f)), 0)) ∧ (¬ (0 : Int32) = 0 → (vp_in (nI c) 8 ∧ xG tb_M_movePackage Q (196, [some (.ref 24), some (.long fr), none, some (.long to), none, some (.int x5), some (.int x6), some (.int (nI c)), some (.int (0 : Int32))], [.long to, .long ((B 25) (nI c).toNatClampNeg), .int (nI c), .ref 26], (HX I A (va_up B 26 f)), 0)))))))))
    rw [e0]
    rw [rnM_0] at hq
    exact br_y (nI_le (by omega) (by omega)) hq
  | k + 1, c, f, w8, e, hq => by
    obtain ⟨q1, q2, q3⟩ := hc c (by omega)
    have hin : vp_in (nI c) 8 := vp_in_nI (by omega) (by omega)
    rw [← rnM_s] at hq
    have no : goB A B fr c = false → ∀ w8, xG tb_M_movePackage Q (136, [some (.ref 24), some (.long fr), none, some (.long to), none, some (.int x5), some (.int x6), some (.int (nI (c + 1))), w8], [], HX I A (va_up B 26 f), 0) := fun hg w8 => by
      rw [hg, if_neg (by decide)] at hq
      exact p_M_mp2 h8 e0 hc hto k (c + 1) f w8 (by omega) hq
    refine xG.go [8, 22, 72, 88, 136, 162, 175, 196] 60 ?_
    show (((I 10) ≤ (nI c) → Q (.inl (some (.int x6))) (HX I A (va_up B 26 f)) 0) ∧ (¬ (I 10) ≤ (nI c) → (vp_in (nI c) 8 ∧ ((((A 28) (nI c).toNatClampNeg) = 0 → (vp_in (nI c) 8 ∧ xG tb_M_movePackage Q (162, [some (.ref 24), some (.long fr), none, some (.long to), none, some (.int x5), some (.int x6), some (.int (nI c)), w8], [.long ((B 25) (nI c).toNatClampNeg)], (HX I A (va_up B 26 f)), 0))) ∧ (¬ ((A 28) (nI c).toNatClampNeg) = 0 → xG tb_M_movePackage Q (175, [some (.ref 24), some (.long fr), none, some (.long to), none, some (.int x5), some (.int x6), some (.int (nI c)), w8], [.int (0 : Int32)], (HX I A (va_up B 26 f)), 0))))))
    rw [e0, nI_clamp (by omega), q1, q2]
    refine br_n (nI_ge (by omega) (by omega)) ⟨hin, fun z => ⟨hin, ?_⟩, fun z => ?_⟩
    · refine xG.call (F := xRun tb_M_packageOf 3) rfl rfl (p_M_packageOf ?_)
      refine xG.go [8, 22, 72, 88, 136, 162, 175, 196] 60 ?_
      show (((lg_cmp (pkg (B 2 c)) fr) = 0 → xG tb_M_movePackage Q (175, [some (.ref 24), some (.long fr), none, some (.long to), none, some (.int x5), some (.int x6), some (.int (nI c)), w8], [.int (1 : Int32)], (HX I A (va_up B 26 f)), 0)) ∧ (¬ (lg_cmp (pkg (B 2 c)) fr) = 0 → xG tb_M_movePackage Q (175, [some (.ref 24), some (.long fr), none, some (.long to), none, some (.int x5), some (.int x6), some (.int (nI c)), w8], [.int (0 : Int32)], (HX I A (va_up B 26 f)), 0)))
      refine ⟨fun w => ?_, fun w => ?_⟩
      · have hg : goB A B fr c = true := decide_eq_true ⟨z, (lg_cmp_eq _ _).mp w⟩
        rw [hg, if_pos rfl] at hq
        refine xG.go [8, 22, 72, 88, 136, 162, 196] 60 ?_
        show (((1 : Int32) = 0 → xG tb_M_movePackage Q (136, [some (.ref 24), some (.long fr), none, some (.long to), none, some (.int x5), some (.int x6), some (.int ((nI c) + (1 : Int32))), some (.int (1 : Int32))], [], (HX I A (va_up B 26 f)), 0)) ∧ (¬ (1 : Int32) = 0 → (vp_in (nI c) 8 ∧ xG tb_M_movePackage Q (196, [some (.ref 24), some (.long fr), none, some (.long to), none, some (.int x5), some (.int x6), some (.int (nI c)), some (.int (1 : Int32))], [.long to, .long ((B 25) (nI c).toNatClampNeg), .int (nI c), .ref 26], (HX I A (va_up B 26 f)), 0))))
        rw [nI_clamp (by omega), q1]
        refine br_n (by decide) ⟨hin, ?_⟩
        refine xG.call (F := xRun tb_M_withPackage 11) rfl rfl (p_M_withPackage (by have := okT_ls q3; have := (okT_len q3).2.2.1; omega) ?_)
        rw [inP_wi q3 hto]
        refine xG.go [8, 22, 72, 88, 136, 162, 196] 60 ?_
        show (vp_in (nI c) 8 ∧ xG tb_M_movePackage Q (136, [some (.ref 24), some (.long fr), none, some (.long to), none, some (.int x5), some (.int x6), some (.int ((nI c) + (1 : Int32))), some (.int (1 : Int32))], [], (HX I A (va_up B 26 (vp_updL f (nI c).toNatClampNeg (inP (B 2 c) to)))), 0))
        rw [nI_clamp (by omega), nI_1]
        exact ⟨hin, p_M_mp2 h8 e0 hc hto k (c + 1) _ _ (by omega) hq⟩
      · refine xG.go [8, 22, 72, 88, 136, 162, 196] 60 ?_
        show (((0 : Int32) = 0 → xG tb_M_movePackage Q (136, [some (.ref 24), some (.long fr), none, some (.long to), none, some (.int x5), some (.int x6), some (.int ((nI c) + (1 : Int32))), some (.int (0 : Int32))], [], (HX I A (va_up B 26 f)), 0)) ∧ (¬ (0 : Int32) = 0 → (vp_in (nI c) 8 ∧ xG tb_M_movePackage Q (196, [some (.ref 24), some (.long fr), none, some (.long to), none, some (.int x5), some (.int x6), some (.int (nI c)), some (.int (0 : Int32))], [.long to, .long ((B 25) (nI c).toNatClampNeg), .int (nI c), .ref 26], (HX I A (va_up B 26 f)), 0))))
        rw [nI_1]
        exact br_y rfl (no (decide_eq_false (fun q => w ((lg_cmp_eq _ _).mpr q.2))) _)
    · refine xG.go [8, 22, 72, 88, 136, 162, 196] 60 ?_
      show (((0 : Int32) = 0 → xG tb_M_movePackage Q (136, [some (.ref 24), some (.long fr), none, some (.long to), none, some (.int x5), some (.int x6), some (.int ((nI c) + (1 : Int32))), some (.int (0 : Int32))], [], (HX I A (va_up B 26 f)), 0)) ∧ (¬ (0 : Int32) = 0 → (vp_in (nI c) 8 ∧ xG tb_M_movePackage Q (196, [some (.ref 24), some (.long fr), none, some (.long to), none, some (.int x5), some (.int x6), some (.int (nI c)), some (.int (0 : Int32))], [.long to, .long ((B 25) (nI c).toNatClampNeg), .int (nI c), .ref 26], (HX I A (va_up B 26 f)), 0))))
      rw [nI_1]
      exact br_y rfl (no (decide_eq_false (fun q => z q.1)) _)
theorem p_M_mp_b {I : Nat → Int32} {A : Nat → Nat → Int32} {B : Nat → Nat → Int64} {Q : xQ} {n : Nat} {fr to : Int64} (h8 : n ≤ 8) (e0 : I 10 = nI n) (hc : ∀ c, c < n → B 25 c = B 2 c ∧ A 28 c = A 5 c ∧ okT (B 2 c)) (hto : to = 0 ∨ okT to) (h1 : fitB A B fr to n 0 = false → Q (.inl (some (.int 0))) (HX (va_up I 9 1) A B) 0) (h0 : fitB A B fr to n 0 = true → Q (.inl (some (.int (nI (cgo (goB A B fr) n 0))))) (HX (va_up I 9 0) A (va_up B 26 (rnM (goB A B fr) (fun j => inP (B 2 j) to) (B 26) 0 n))) 0) : xG tb_M_movePackage Q (33, [some (.ref 24), some (.long fr), none, some (.long to), none, none, none, none, none], [.int 1], (HX I A B), 0) := by
  refine xG.go [8, 22, 33, 41, 72, 88, 162, 196] 20 ?_
  show xG tb_M_movePackage Q (41, [some (.ref 24), some (.long fr), none, some (.long to), none, some (.int 1), some (.int (nI 0)), some (.int (nI 0)), none], [], (HX I A B), 0)
  refine p_M_mp1 h8 e0 hc hto n 0 0 (Nat.zero_add n) h1 (fun w w7 => ?_)
  have hy := h0 w
  rw [Nat.zero_add]
  refine xG.go [8, 22, 72, 88, 136, 162, 196] 60 ?_
  show (((1 : Int32) = 0 → (((1 : Int32) = 0 → Q (.inl (some (.int (0 : Int32)))) (HX (va_up I 9 (1 : Int32)) A B) 0) ∧ (¬ (1 : Int32) = 0 → xG tb_M_movePackage Q (136, [some (.ref 24), some (.long fr), none, some (.long to), none, some (.int (1 : Int32)), some (.int (nI (cgo (goB A B fr) n 0))), some (.int (0 : Int32)), none], [], (HX (va_up I 9 (1 : Int32)) A B), 0)))) ∧ (¬ (1 : Int32) = 0 → (((1 : Int32) = 0 → Q (.inl (some (.int (0 : Int32)))) (HX (va_up I 9 (0 : Int32)) A B) 0) ∧ (¬ (1 : Int32) = 0 → xG tb_M_movePackage Q (136, [some (.ref 24), some (.long fr), none, some (.long to), none, some (.int (1 : Int32)), some (.int (nI (cgo (goB A B fr) n 0))), some (.int (0 : Int32)), none], [], (HX (va_up I 9 (0 : Int32)) A B), 0)))))
  refine br_n (by decide) (br_n (by decide) ?_)
  have := p_M_mp2 (I := va_up I 9 0) (x5 := 1) (x6 := nI (cgo (goB A B fr) n 0)) h8 e0 hc hto n 0 (B 26) none (Nat.zero_add n) hy
  rw [up_same] at this
  exact this
theorem p_M_mp_n {I : Nat → Int32} {A : Nat → Nat → Int32} {B : Nat → Nat → Int64} {Q : xQ} {fr to : Int64} (hq : Q (.inl (some (.int 0))) (HX (va_up I 9 1) A B) 0) : xG tb_M_movePackage Q (33, [some (.ref 24), some (.long fr), none, some (.long to), none, none, none, none, none], [.int 0], (HX I A B), 0) := by
  refine xG.go [8, 22, 50, 72, 88, 112, 162, 196] 60 ?_
  show (((I 10) ≤ (0 : Int32) → xG tb_M_movePackage Q (112, [some (.ref 24), some (.long fr), none, some (.long to), none, some (.int (0 : Int32)), some (.int (0 : Int32)), some (.int (0 : Int32)), none], [], (HX I A B), 0)) ∧ (¬ (I 10) ≤ (0 : Int32) → xG tb_M_movePackage Q (50, [some (.ref 24), some (.long fr), none, some (.long to), none, some (.int (0 : Int32)), some (.int (0 : Int32)), some (.int (0 : Int32)), none], [], (HX I A B), 0)))
  refine ⟨fun _ => p_M_mp_end0 hq, fun _ => ?_⟩
  refine xG.go [8, 22, 55, 72, 88, 112, 162, 196] 60 ?_
  show (((0 : Int32) = 0 → xG tb_M_movePackage Q (112, [some (.ref 24), some (.long fr), none, some (.long to), none, some (.int (0 : Int32)), some (.int (0 : Int32)), some (.int (0 : Int32)), none], [], (HX I A B), 0)) ∧ (¬ (0 : Int32) = 0 → xG tb_M_movePackage Q (55, [some (.ref 24), some (.long fr), none, some (.long to), none, some (.int (0 : Int32)), some (.int (0 : Int32)), some (.int (0 : Int32)), none], [], (HX I A B), 0)))
  exact br_y rfl (p_M_mp_end0 hq)
theorem p_M_mp_to {I : Nat → Int32} {A : Nat → Nat → Int32} {B : Nat → Nat → Int64} {Q : xQ} {n : Nat} {fr to : Int64} (h8 : n ≤ 8) (e0 : I 10 = nI n) (hc : ∀ c, c < n → B 25 c = B 2 c ∧ A 28 c = A 5 c ∧ okT (B 2 c)) (h1 : ¬ (isPk to = true ∧ fitB A B fr to n 0 = true) → Q (.inl (some (.int 0))) (HX (va_up I 9 1) A B) 0) (h0 : (isPk to = true ∧ fitB A B fr to n 0 = true) → Q (.inl (some (.int (nI (cgo (goB A B fr) n 0))))) (HX (va_up I 9 0) A (va_up B 26 (rnM (goB A B fr) (fun j => inP (B 2 j) to) (B 26) 0 n))) 0) : xG tb_M_movePackage Q (14, [some (.ref 24), some (.long fr), none, some (.long to), none, none, none, none, none], [], (HX I A B), 0) := by
  refine xG.go [8, 22, 33, 72, 88, 162, 196] 60 ?_
  show (((lg_cmp to (0 : Int64)) = 0 → xG tb_M_movePackage Q (33, [some (.ref 24), some (.long fr), none, some (.long to), none, none, none, none, none], [.int (1 : Int32)], (HX I A B), 0)) ∧ (¬ (lg_cmp to (0 : Int64)) = 0 → xG tb_M_movePackage Q (22, [some (.ref 24), some (.long fr), none, some (.long to), none, none, none, none, none], [.int (0 : Int32), .long to], (HX I A B), 0)))
  have hp : isPk to = true ↔ (to = 0 ∨ isCN to = true) := by
    unfold isPk
    rw [Bool.or_eq_true, decide_eq_true_eq]
  have yes : (to = 0 ∨ isCN to = true) → xG tb_M_movePackage Q (33, [some (.ref 24), some (.long fr), none, some (.long to), none, none, none, none, none], [.int 1], (HX I A B), 0) := fun z =>
    p_M_mp_b h8 e0 hc (z.elim Or.inl (fun z => Or.inr (okT_cn z))) (fun w => h1 (fun q => by rw [w] at q; cases q.2)) (fun w => h0 ⟨hp.mpr z, w⟩)
  refine ⟨fun z => yes (Or.inl ((lg_cmp_eq _ _).mp z)), fun z => ?_⟩
  refine xG.call (F := xRun tb_M_isName 8) rfl rfl (p_M_isName (al := false) ?_)
  rw [mName_cn]
  refine xG.go [8, 22, 33, 72, 88, 162, 196] 60 ?_
  show (((bI (isCN to)) = 0 → xG tb_M_movePackage Q (33, [some (.ref 24), some (.long fr), none, some (.long to), none, none, none, none, none], [.int (0 : Int32)], (HX I A B), 0)) ∧ (¬ (bI (isCN to)) = 0 → xG tb_M_movePackage Q (33, [some (.ref 24), some (.long fr), none, some (.long to), none, none, none, none, none], [.int (1 : Int32)], (HX I A B), 0)))
  cases ht : isCN to with
  | true => exact br_n (by decide) (yes (Or.inr ht))
  | false => exact br_y rfl (p_M_mp_n (h1 (fun q => (hp.mp q.1).elim (fun w => z ((lg_cmp_eq _ _).mpr w)) (fun w => by rw [ht] at w; cases w))))
theorem p_M_movePackage {I : Nat → Int32} {A : Nat → Nat → Int32} {B : Nat → Nat → Int64} {Q : xQ} {n : Nat} {fr to : Int64} (h8 : n ≤ 8) (e0 : I 10 = nI n) (hc : ∀ c, c < n → B 25 c = B 2 c ∧ A 28 c = A 5 c ∧ okT (B 2 c)) (h1 : ¬ (isPk fr = true ∧ isPk to = true ∧ fitB A B fr to n 0 = true) → Q (.inl (some (.int 0))) (HX (va_up I 9 1) A B) 0) (h0 : (isPk fr = true ∧ isPk to = true ∧ fitB A B fr to n 0 = true) → Q (.inl (some (.int (nI (cgo (goB A B fr) n 0))))) (HX (va_up I 9 0) A (va_up B 26 (rnM (goB A B fr) (fun j => inP (B 2 j) to) (B 26) 0 n))) 0) : xRun tb_M_movePackage 9 [.ref 24, .long fr, .long to] (HX I A B) Q := by
  refine ⟨Nat.le_of_ble_eq_true rfl, ?_⟩
  refine xG.go [8, 14, 22, 33, 72, 88, 162, 196] 60 ?_
  show (((lg_cmp fr (0 : Int64)) = 0 → xG tb_M_movePackage Q (14, [some (.ref 24), some (.long fr), none, some (.long to), none, none, none, none, none], [], (HX I A B), 0)) ∧ (¬ (lg_cmp fr (0 : Int64)) = 0 → xG tb_M_movePackage Q (8, [some (.ref 24), some (.long fr), none, some (.long to), none, none, none, none, none], [.int (0 : Int32), .long fr], (HX I A B), 0)))
  have hp : isPk fr = true ↔ (fr = 0 ∨ isCN fr = true) := by
    unfold isPk
    rw [Bool.or_eq_true, decide_eq_true_eq]
  have yes : (fr = 0 ∨ isCN fr = true) → xG tb_M_movePackage Q (14, [some (.ref 24), some (.long fr), none, some (.long to), none, none, none, none, none], [], (HX I A B), 0) := fun z =>
    p_M_mp_to h8 e0 hc (fun w => h1 (fun q => w q.2)) (fun w => h0 ⟨hp.mpr z, w⟩)
  refine ⟨fun z => yes (Or.inl ((lg_cmp_eq _ _).mp z)), fun z => ?_⟩
  refine xG.call (F := xRun tb_M_isName 8) rfl rfl (p_M_isName (al := false) ?_)
  rw [mName_cn]
  refine xG.go [8, 14, 22, 33, 72, 88, 162, 196] 60 ?_
  show (((bI (isCN fr)) = 0 → xG tb_M_movePackage Q (33, [some (.ref 24), some (.long fr), none, some (.long to), none, none, none, none, none], [.int (0 : Int32)], (HX I A B), 0)) ∧ (¬ (bI (isCN fr)) = 0 → xG tb_M_movePackage Q (14, [some (.ref 24), some (.long fr), none, some (.long to), none, none, none, none, none], [], (HX I A B), 0)))
  cases ht : isCN fr with
  | true => exact br_n (by decide) (yes (Or.inr ht))
  | false => exact br_y rfl (p_M_mp_n (h1 (fun q => (hp.mp q.1).elim (fun w => z ((lg_cmp_eq _ _).mpr w)) (fun w => by rw [ht] at w; cases w))))
theorem fitB_true {A : Nat → Nat → Int32} {B : Nat → Nat → Int64} {fr to : Int64} : ∀ (k c : Nat), fitB A B fr to k c = true → ∀ j, c ≤ j → j < c + k → goB A B fr j = true → ¬ inP (B 2 j) to = 0
  | 0, c, h, j, h1, h2, _ => by omega
  | k + 1, c, h, j, h1, h2, hg => by
    unfold fitB at h
    by_cases w : goB A B fr c = true ∧ inP (B 2 c) to = 0
    · rw [if_pos w] at h; cases h
    · rw [if_neg w] at h
      by_cases e : j = c
      · rw [e] at hg ⊢; exact fun z => w ⟨hg, z⟩
      · exact fitB_true k (c + 1) h j (by omega) (by omega) hg
theorem vInv.pack {I : Nat → Int32} {A : Nat → Nat → Int32} {B : Nat → Nat → Int64} {n : Nat} {fr to : Int64} {f : Nat → Int64} (h : vInv I A B) (h8 : n ≤ 8) (e0 : I 0 = nI n) (hto : to = 0 ∨ okT to) (hf : fitB A B fr to n 0 = true) : vInv (va_up I 9 0) A (va_up (va_up (rpB A B fr to n) 41 f) 26 (rnM (goB A B fr) (fun j => inP (B 2 j) to) (B 26) 0 n)) := by
  obtain ⟨n', mc, sz, h1, h2, h3, h4, h5, h6⟩ := h
  obtain rfl : n = n' := (nI_eq (by omega) (by omega)).mp (e0.symm.trans h1.2.1)
  refine ⟨n, mc, sz, h1, fun c hc => ?_, h3, h4, ⟨h5.1, fun c hc => ?_, h5.2.2⟩, h6⟩
  · obtain ⟨⟨a1, a2, a3⟩, a4⟩ := h2 c hc
    refine ⟨⟨a1, ?_, a3⟩, a4⟩
    show rnM (goB A B fr) (fun j => inP (B 2 j) to) (B 26) 0 n c = rnM (goB A B fr) (fun j => inP (B 2 j) to) (B 3) 0 n c
    unfold rnM
    split
    · rfl
    · exact a2
  · obtain ⟨b1, b2, b3⟩ := h5.2.1 c hc
    refine ⟨b1, ?_, b3⟩
    show okT (rnM (goB A B fr) (fun j => inP (B 2 j) to) (B 3) 0 n c)
    unfold rnM
    split
    · rename_i q
      exact okT_inP b1 hto (fitB_true n 0 hf c q.1 q.2.1 q.2.2)
    · exact b2
theorem j_movePackage : J_movePackage vInv := by
  intro I A B fr to hV
  have hV' := hV
  obtain ⟨n, mc, sz, ⟨h8, e0, e10⟩, h2, h3, h4, h5, -⟩ := hV'
  have hc : ∀ c, c < n → B 25 c = B 2 c ∧ A 28 c = A 5 c ∧ okT (B 2 c) := fun c hc => ⟨(h2 c hc).1.1, (h2 c hc).1.2.2.2, (h5.2.1 c hc).1⟩
  by_cases w : isPk fr = true ∧ isPk to = true ∧ fitB A B fr to n 0 = true
  · have hto : to = 0 ∨ okT to := by
      have := w.2.1
      unfold isPk at this
      rw [Bool.or_eq_true, decide_eq_true_eq] at this
      exact this.elim Or.inl (fun z => Or.inr (okT_cn z))
    have ef : ∀ k c, fitB A (va_up (rpB A B fr to n) 41 (vp_updL (B 41) 0 (nI (cgo (goB A B fr) n 0)).toInt64)) fr to k c = fitB A B fr to k c := fun k => by
      induction k with
      | zero => exact fun c => rfl
      | succ k ih => exact fun c => by unfold fitB; rw [ih (c + 1)]; rfl
    refine ⟨0, I, A, _, 0, nI (cgo (goB A B fr) n 0), va_up I 9 0, A, _, fun Q hq => p_L_movePackage h8 e0 (fun z => absurd w z) (fun _ => hq), Nat.zero_le 1, fun Q hq => p_M_movePackage (n := n) h8 e10 hc (fun z => absurd (by rw [ef]; exact w) z) (fun _ => hq), rfl, fun _ => ?_, hV.pack h8 e0 hto w.2.2⟩
    show vp_updL (B 41) 0 (nI (cgo (goB A B fr) n 0)).toInt64 0 = _
    exact pk_uLs
  · exact ⟨1, I, A, B, 1, 0, va_up I 9 1, A, B, fun Q hq => p_L_movePackage h8 e0 (fun _ => hq) (fun z => absurd z w), Nat.le_refl 1, fun Q hq => p_M_movePackage h8 e10 hc (fun _ => hq) (fun z => absurd z w), rfl, fun z => absurd z (by decide), hV⟩
theorem case_3 {L : Nat} {xs : Nat → Int32} : xCase vInv L xs 502 := lcase_3 j_movePackage
