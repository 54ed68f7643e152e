theorem p_N_moveClass {I : Nat → Int32} {A : Nat → Nat → Int32} {B : Nat → Nat → Int64} {Q : xQ} {c : Int32} {t : Int64} {n : Nat} (h8 : n ≤ 8) (e0 : I 0 = nI n) (hy : isC (I 0) c = true → isCN t = true → Q (.inl none) (HX I A (va_up B 3 (vp_updL (B 3) c.toNatClampNeg t))) 0) (hz : isC (I 0) c = true → isCN t = false → Q (.inr 0) (HX I A B) 1) (hn : isC (I 0) c = false → Q (.inr 1) (HX I A B) 1) : xRun tb_N_moveClass 4 [.ref 0, .int c, .long t] (HX I A B) Q := by
  refine ⟨Nat.le_of_ble_eq_true rfl, ?_⟩
  refine xG.go [2, 6] 30 ?_
  show xG tb_N_moveClass Q (2, [some (.ref 0), some (.int c), some (.long t), none], [.int c, .ref 0], (HX I A B), 0)
  refine xG.callV (F := xRun tb_N_requireClass 2) (a := 0) rfl rfl rfl rfl (p_N_requireClass (fun h => ?_) (fun h => hn h))
  refine xG.go [2, 6] 30 ?_
  show xG tb_N_moveClass Q (6, [some (.ref 0), some (.int c), some (.long t), none], [.long t], (HX I A B), 0)
  refine xG.call (F := xRun tb_T_isClassName 6) rfl rfl (p_T_isClassName ?_)
  refine xG.go [2, 6] 30 ?_
  show (((bI (isCN t)) = 0 → Q (.inr 0) (HX I A B) 1) ∧ (¬ (bI (isCN t)) = 0 → (vp_in c 8 ∧ Q (.inl none) (HX I A (va_up B 3 (vp_updL (B 3) c.toNatClampNeg t))) 0)))
  cases hb : isCN t with
  | false => exact br_y rfl (hz h hb)
  | true =>
    have hy := hy h hb
    rw [e0] at h
    obtain ⟨j, hj, rfl⟩ := isC_ix (by omega) h
    exact br_n (by decide) ⟨vp_in_nI (by omega) (by omega), hy⟩
theorem p_L_moveClass {I : Nat → Int32} {A : Nat → Nat → Int32} {B : Nat → Nat → Int64} {Q : xQ} {c : Int32} {t : Int64} {n : Nat} (h8 : n ≤ 8) (e0 : I 0 = nI n) (hy : isC (I 0) c = true → isCN t = true → Q (.inl (some (.int 0))) (HX I A (va_up B 3 (vp_updL (B 3) c.toNatClampNeg t))) 0) (hz : isC (I 0) c = true → isCN t = false → Q (.inl (some (.int 2))) (HX I A B) 1) (hn : isC (I 0) c = false → Q (.inl (some (.int 1))) (HX I A B) 1) : xRun tb_L_moveClass 5 [.ref 0, .int c, .long t] (HX I A B) Q := by
  refine ⟨Nat.le_of_ble_eq_true rfl, ?_⟩
  refine xG.go [3] 30 ?_
  show xG tb_L_moveClass Q (3, [some (.ref 0), some (.int c), some (.long t), none, none], [.long t, .int c, .ref 0], (HX I A B), 0)
  refine xG.callH (F := xRun tb_N_moveClass 4) (a := 0) rfl rfl rfl rfl (p_N_moveClass h8 e0 (fun h hb => ?_) (fun h hb => hz h hb) (fun h => hn h))
  refine xG.go [3] 30 ?_
  show Q (.inl (some (.int (0 : Int32)))) (HX I A (va_up B 3 (vp_updL (B 3) c.toNatClampNeg t))) 0
  exact hy h hb
theorem p_M_moveClass {I : Nat → Int32} {A : Nat → Nat → Int32} {B : Nat → Nat → Int64} {Q : xQ} {c : Int32} {t : Int64} {n : Nat} (h8 : n ≤ 8) (e0 : I 10 = nI n) (hy : isC (I 10) c = true → isCN t = true → Q (.inl none) (HX (va_up I 9 0) A (va_up B 26 (vp_updL (B 26) c.toNatClampNeg t))) 0) (hz : isC (I 10) c = true → isCN t = false → Q (.inl none) (HX (va_up I 9 2) A B) 0) (hn : isC (I 10) c = false → Q (.inl none) (HX (va_up I 9 1) A B) 0) : xRun tb_M_moveClass 4 [.ref 24, .int c, .long t] (HX I A B) Q := by
  refine ⟨Nat.le_of_ble_eq_true rfl, ?_⟩
  refine xG.go [3, 15] 30 ?_
  show xG tb_M_moveClass Q (3, [some (.ref 24), some (.int c), some (.long t), none], [.int c, .ref 24, .ref 24], (HX I A B), 0)
  refine xG.callV (F := xRun tb_M_isClass 2) (a := 24) rfl rfl rfl rfl (p_M_isClass ?_)
  refine xG.go [3, 15] 30 ?_
  show (((bI (isC (I 10) c)) = 0 → (((1 : Int32) = 0 → (vp_in c 8 ∧ Q (.inl none) (HX (va_up I 9 (1 : Int32)) A (va_up B 26 (vp_updL (B 26) c.toNatClampNeg t))) 0)) ∧ (¬ (1 : Int32) = 0 → Q (.inl none) (HX (va_up I 9 (1 : Int32)) A B) 0))) ∧ (¬ (bI (isC (I 10) c)) = 0 → xG tb_M_moveClass Q (15, [some (.ref 24), some (.int c), some (.long t), none], [.int (0 : Int32), .long t, .ref 24], (HX I A B), 0)))
  cases h : isC (I 10) c with
  | false => exact br_y rfl (br_n (by decide) (hn h))
  | true =>
    have hy1 := hy h
    have hz1 := hz h
    refine br_n (by decide) ?_
    refine xG.call (F := xRun tb_M_isName 8) rfl rfl (p_M_isName (al := false) ?_)
    rw [mName_cn]
    refine xG.go [3, 15] 30 ?_
    show (((bI (isCN t)) = 0 → (((2 : Int32) = 0 → (vp_in c 8 ∧ Q (.inl none) (HX (va_up I 9 (2 : Int32)) A (va_up B 26 (vp_updL (B 26) c.toNatClampNeg t))) 0)) ∧ (¬ (2 : Int32) = 0 → Q (.inl none) (HX (va_up I 9 (2 : Int32)) A B) 0))) ∧ (¬ (bI (isCN t)) = 0 → (((0 : Int32) = 0 → (vp_in c 8 ∧ Q (.inl none) (HX (va_up I 9 (0 : Int32)) A (va_up B 26 (vp_updL (B 26) c.toNatClampNeg t))) 0)) ∧ (¬ (0 : Int32) = 0 → Q (.inl none) (HX (va_up I 9 (0 : Int32)) A B) 0))))
    cases hb : isCN t with
    | false => exact br_y rfl (br_n (by decide) (hz1 hb))
    | true =>
      have hy2 := hy1 hb
      rw [e0] at h
      obtain ⟨j, hj, rfl⟩ := isC_ix (by omega) h
      exact br_n (by decide) (br_y rfl ⟨vp_in_nI (by omega) (by omega), hy2⟩)
theorem vInv.mv {I : Nat → Int32} {A : Nat → Nat → Int32} {B : Nat → Nat → Int64} {t : Int64} {i : Nat} (h : vInv I A B) (ht : okT t) : vInv (va_up I 9 0) A (va_up (va_up B 3 (vp_updL (B 3) i t)) 26 (vp_updL (B 26) i t)) := by
  obtain ⟨n, mc, sz, h1, h2, h3, h4, h5, h6⟩ := h
  refine ⟨n, mc, sz, h1, fun c hc => ?_, h3, h4, ⟨h5.1, fun c hc => ?_, h5.2.2⟩, h6⟩
  rotate_left
  · obtain ⟨b1, b2, b3⟩ := h5.2.1 c hc
    refine ⟨b1, ?_, b3⟩
    show okT (vp_updL (B 3) i t c)
    by_cases w : c = i
    · subst w
      rw [pk_uLs]
      exact ht
    · rw [pk_uLn w]
      exact b2
  obtain ⟨⟨a1, a2, a3⟩, a4⟩ := h2 c hc
  refine ⟨⟨a1, ?_, a3⟩, a4⟩
  show vp_updL (B 26) i t c = vp_updL (B 3) i t c
  by_cases w : c = i
  · subst w
    rw [pk_uLs, pk_uLs]
  · rw [pk_uLn w, pk_uLn w]
    exact a2
theorem j_moveClass : J_moveClass vInv := by
  intro I A B c t hV
  obtain ⟨n, h8, e0, e10⟩ := hV.count
  cases h : isC (I 0) c with
  | false =>
    have h' : isC (I 10) c = false := by rw [e10, ← e0]; exact h
    exact ⟨1, I, A, B, 1, va_up I 9 1, A, B, fun Q hq => p_L_moveClass h8 e0 (fun w => by rw [h] at w; cases w) (fun w => by rw [h] at w; cases w) (fun _ => hq), Nat.le_refl 1, fun Q hq => p_M_moveClass h8 e10 (fun w => by rw [h'] at w; cases w) (fun w => by rw [h'] at w; cases w) (fun _ => hq), rfl, hV⟩
  | true =>
    have h' : isC (I 10) c = true := by rw [e10, ← e0]; exact h
    cases hb : isCN t with
    | false =>
      exact ⟨2, I, A, B, 1, va_up I 9 2, A, B, fun Q hq => p_L_moveClass h8 e0 (fun _ w => by rw [hb] at w; cases w) (fun _ _ => hq) (fun w => by rw [h] at w; cases w), Nat.le_refl 1, fun Q hq => p_M_moveClass h8 e10 (fun _ w => by rw [hb] at w; cases w) (fun _ _ => hq) (fun w => by rw [h'] at w; cases w), rfl, hV⟩
    | true =>
      exact ⟨0, I, A, _, 0, _, A, _, fun Q hq => p_L_moveClass h8 e0 (fun _ _ => hq) (fun _ w => by rw [hb] at w; cases w) (fun w => by rw [h] at w; cases w), Nat.zero_le 1, fun Q hq => p_M_moveClass h8 e10 (fun _ _ => hq) (fun _ w => by rw [hb] at w; cases w) (fun w => by rw [h'] at w; cases w), rfl, hV.mv (okT_cn hb)⟩
theorem case_2 {L : Nat} {xs : Nat → Int32} : xCase vInv L xs 422 := lcase_2 j_moveClass
