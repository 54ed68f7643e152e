theorem dif_sw {f g f' g' : Nat → Int64} {c : Nat} (h1 : f' c = f c) (h2 : g' c = g c) : dif f' g' c = dif g f c := by
  unfold dif
  rw [h1, h2]
  exact decide_eq_decide.mpr ⟨fun h w => h w.symm, fun h w => h w.symm⟩
theorem mtot_chg {B : Nat → Nat → Int64} {mc : Nat → Nat} {n : Nat} (hm : ∀ c, c < n → mc c ≤ 6) (hC : ∀ c, c < n → B 25 c = B 2 c ∧ B 26 c = B 3 c) (hM : ∀ c k, c < n → k < mc c → B 30 (8 * c + k) = B 8 (8 * c + k) ∧ B 31 (8 * c + k) = B 9 (8 * c + k)) : ∀ (k c : Nat), c + k = n → mtot B mc c k = cntF (dif (B 3) (B 2)) c k + cntF (fun m => numB mc n m && dif (B 9) (B 8) m) (8 * c) (8 * k)
  | 0, c, h => rfl
  | k + 1, c, h => by
    have hc := hm c (by omega)
    have e1 : 8 * (k + 1) = mc c + ((8 - mc c) + 8 * k) := by omega
    have e2 : 8 * c + mc c + (8 - mc c) = 8 * (c + 1) := by omega
    rw [e1, cntF_add _ (mc c) (8 * c) _, cntF_add _ (8 - mc c) _ _, e2]
    have e3 : cntF (fun m => numB mc n m && dif (B 9) (B 8) m) (8 * c + mc c) (8 - mc c) = 0 := by
      refine cntF_no _ _ _ (fun j h1 h2 => ?_)
      have d1 : j / 8 = c := by omega
      have d2 : ¬ j % 8 < mc c := by omega
      show (numB mc n j && _) = false
      unfold numB
      rw [d1, decide_eq_false d2, Bool.and_false, Bool.false_and]
    have e4 : cntF (fun m => numB mc n m && dif (B 9) (B 8) m) (8 * c) (mc c) = cntF (dif (B 30) (B 31)) (8 * c) (mc c) := by
      refine cntF_eq _ _ _ _ (fun j h1 h2 => ?_)
      have d1 : j / 8 = c := by omega
      have d2 : j % 8 < mc c := by omega
      have d3 : c < n := by omega
      show (numB mc n j && _) = _
      unfold numB
      rw [d1, decide_eq_true d2, decide_eq_true d3, Bool.and_true, Bool.true_and]
      have d4 : j = 8 * c + (j - 8 * c) := by omega
      have q := hM c (j - 8 * c) d3 (by omega)
      rw [← d4] at q
      exact (dif_sw q.1 q.2).symm
    rw [e3, e4]
    have ih := mtot_chg hm hC hM k (c + 1) (by omega)
    have e5 : mtot B mc c (k + 1) = (if dif (B 25) (B 26) c then 1 else 0) + cntF (dif (B 30) (B 31)) (8 * c) (mc c) + mtot B mc (c + 1) k := rfl
    have e6 : cntF (dif (B 3) (B 2)) c (k + 1) = (if dif (B 3) (B 2) c then 1 else 0) + cntF (dif (B 3) (B 2)) (c + 1) k := rfl
    have q := hC c (by omega)
    rw [e5, e6, ih, dif_sw q.1 q.2]
    generalize (if dif (B 3) (B 2) c = true then 1 else 0) = z
    omega
theorem mtot_ext {B B' : Nat → Nat → Int64} {mc : Nat → Nat} (h1 : B' 25 = B 25) (h2 : B' 26 = B 26) (h3 : B' 30 = B 30) (h4 : B' 31 = B 31) : ∀ (k c : Nat), mtot B' mc c k = mtot B mc c k
  | 0, c => rfl
  | k + 1, c => by
    show (if dif (B' 25) (B' 26) c then 1 else 0) + cntF (dif (B' 30) (B' 31)) (8 * c) (mc c) + mtot B' mc (c + 1) k = (if dif (B 25) (B 26) c then 1 else 0) + cntF (dif (B 30) (B 31)) (8 * c) (mc c) + mtot B mc (c + 1) k
    rw [h1, h2, h3, h4, mtot_ext h1 h2 h3 h4 k (c + 1)]
theorem vInv.chg {I : Nat → Int32} {A : Nat → Nat → Int32} {B : Nat → Nat → Int64} (h : vInv I A B) : ∃ (n : Nat) (mc : Nat → Nat), (n ≤ 8 ∧ I 0 = nI n ∧ I 10 = nI n) ∧ (∀ c, c < n → mc c ≤ 6 ∧ A 6 c = nI (mc c) ∧ A 29 c = nI (mc c)) ∧ mtot B mc 0 n = chg B mc n := by
  obtain ⟨n, mc, sz, h1, h2, h3, -⟩ := h
  refine ⟨n, mc, h1, fun c hc => (h2 c hc).2.2.2, ?_⟩
  exact mtot_chg (fun c hc => (h2 c hc).2.2.2.1) (fun c hc => ⟨(h2 c hc).1.1, (h2 c hc).1.2.1⟩) (fun c k hc hk => ⟨(h3 c k hc hk).1.1, (h3 c k hc hk).1.2.1⟩) n 0 (Nat.zero_add n)
theorem cpy_0 {f g : Nat → Int64} {c : Nat} : va_cpy f g c c 0 = g := by
  funext j
  unfold va_cpy
  exact if_neg (by omega)
theorem cpy_s {f g : Nat → Int64} {c k : Nat} : va_cpy f (vp_updL g c (f c)) (c + 1) (c + 1) k = va_cpy f g c c (k + 1) := by
  funext j
  unfold va_cpy
  by_cases w : j = c
  · subst w
    rw [if_neg (by omega), if_pos (by omega), pk_uLs, Nat.sub_self, Nat.add_zero]
  · by_cases z : c + 1 ≤ j ∧ j < c + 1 + k
    · have e : c + 1 + (j - (c + 1)) = c + (j - c) := by omega
      rw [if_pos z, if_pos (by omega), e]
    · rw [if_neg z, if_neg (by omega), pk_uLn w]
theorem cpy_in {f g : Nat → Int64} {n j : Nat} (h : j < n) : va_cpy f g 0 0 n j = f j := by
  unfold va_cpy
  rw [if_pos (by omega), Nat.zero_add, Nat.sub_zero]
theorem p_S_dropNewNames {I : Nat → Int32} {A : Nat → Nat → Int32} {B : Nat → Nat → Int64} {Q : xQ} (hq : Q (.inl none) (HX I A (va_up (va_up B 3 (va_cpy (B 2) (B 3) 0 0 8)) 9 (va_cpy (B 8) (B 9) 0 0 64))) 0) : xRun tb_S_dropNewNames 1 [.ref 1] (HX I A B) Q := by
  refine ⟨Nat.le_of_ble_eq_true rfl, xG.go [] 30 ?_⟩
  show (((¬ (0 : Int32) < 0 ∧ ¬ (0 : Int32) < 0 ∧ ¬ (8 : Int32) < 0) ∧ (0 : Int32).toNatClampNeg + (8 : Int32).toNatClampNeg ≤ 8 ∧ (0 : Int32).toNatClampNeg + (8 : Int32).toNatClampNeg ≤ 8) ∧ (((¬ (0 : Int32) < 0 ∧ ¬ (0 : Int32) < 0 ∧ ¬ (64 : Int32) < 0) ∧ (0 : Int32).toNatClampNeg + (64 : Int32).toNatClampNeg ≤ 64 ∧ (0 : Int32).toNatClampNeg + (64 : Int32).toNatClampNeg ≤ 64) ∧ Q (.inl none) (HX I A (va_up (va_up B 3 (va_cpy (B 2) (B 3) (0 : Int32).toNatClampNeg (0 : Int32).toNatClampNeg (8 : Int32).toNatClampNeg)) 9 (va_cpy (B 8) (B 9) (0 : Int32).toNatClampNeg (0 : Int32).toNatClampNeg (64 : Int32).toNatClampNeg))) 0))
  exact ⟨⟨⟨by decide, by decide, by decide⟩, by decide, by decide⟩, ⟨⟨by decide, by decide, by decide⟩, by decide, by decide⟩, hq⟩
theorem p_N_cancel {I : Nat → Int32} {A : Nat → Nat → Int32} {B : Nat → Nat → Int64} {Q : xQ} {n : Nat} {mc : Nat → Nat} (h8 : n ≤ 8) (e0 : I 0 = nI n) (hm : ∀ c, c < n → mc c ≤ 6 ∧ A 6 c = nI (mc c)) (hq : Q (.inl (some (.int (nI (chg B mc n))))) (HX I A (va_up (va_up B 3 (va_cpy (B 2) (B 3) 0 0 8)) 9 (va_cpy (B 8) (B 9) 0 0 64))) 0) : xRun tb_N_cancel 2 [.ref 0] (HX I A B) Q := by
  refine ⟨Nat.le_of_ble_eq_true rfl, ?_⟩
  refine xG.go [4, 12] 30 ?_
  show xG tb_N_cancel Q (4, [some (.ref 0), none], [.ref 1], (HX I A B), 0)
  refine xG.callV (F := xRun tb_S_changedNames 3) (a := 1) rfl rfl rfl rfl (p_S_changedNames h8 e0 hm ?_)
  refine xG.go [4, 12] 30 ?_
  show xG tb_N_cancel Q (12, [some (.ref 0), some (.int (nI (chg B mc n)))], [.ref 1], (HX I A B), 0)
  refine xG.callV (F := xRun tb_S_dropNewNames 1) (a := 1) rfl rfl rfl rfl (p_S_dropNewNames ?_)
  refine xG.go [4, 12] 30 ?_
  exact hq
theorem p_M_cancel1 {I : Nat → Int32} {A : Nat → Nat → Int32} {B : Nat → Nat → Int64} {Q : xQ} {x : Int32} : ∀ (k c : Nat) (f : Nat → Int64), c + k = 8 → xG tb_M_cancel Q (36, [some (.ref 24), some (.int x), some (.int (nI 8))], [], (HX I A (va_up B 26 (va_cpy (B 25) f c c k))), 0) → xG tb_M_cancel Q (12, [some (.ref 24), some (.int x), some (.int (nI c))], [], (HX I A (va_up B 26 f)), 0)
  | 0, c, f, h, hk => by
    obtain rfl : c = 8 := h
    refine xG.go [6, 12, 36, 38] 30 ?_
    show (((8 : Int32) ≤ (nI 8) → xG tb_M_cancel Q (36, [some (.ref 24), some (.int x), some (.int (nI 8))], [], (HX I A (va_up B 26 f)), 0)) ∧ (¬ (8 : Int32) ≤ (nI 8) → (vp_in (nI 8) 8 ∧ (vp_in (nI 8) 8 ∧ xG tb_M_cancel Q (12, [some (.ref 24), some (.int x), some (.int ((nI 8) + (1 : Int32)))], [], (HX I A (va_up B 26 (vp_updL f (nI 8).toNatClampNeg ((B 25) (nI 8).toNatClampNeg)))), 0)))))
    rw [cpy_0] at hk
    exact br_y (nI_le (a := 8) (b := 8) (by omega) (by omega)) hk
  | k + 1, c, f, h, hk => by
    refine xG.go [6, 12, 36, 38] 30 ?_
    show (((8 : Int32) ≤ (nI c) → xG tb_M_cancel Q (36, [some (.ref 24), some (.int x), some (.int (nI c))], [], (HX I A (va_up B 26 f)), 0)) ∧ (¬ (8 : Int32) ≤ (nI c) → (vp_in (nI c) 8 ∧ (vp_in (nI c) 8 ∧ xG tb_M_cancel Q (12, [some (.ref 24), some (.int x), some (.int ((nI c) + (1 : Int32)))], [], (HX I A (va_up B 26 (vp_updL f (nI c).toNatClampNeg ((B 25) (nI c).toNatClampNeg)))), 0)))))
    have hin : vp_in (nI c) 8 := vp_in_nI (by omega) (by omega)
    refine br_n (nI_ge (b := 8) (by omega) (by omega)) ⟨hin, hin, ?_⟩
    rw [nI_clamp (by omega), nI_1]
    refine p_M_cancel1 k (c + 1) _ (by omega) ?_
    rw [cpy_s]
    exact hk
theorem p_M_cancel2 {I : Nat → Int32} {A : Nat → Nat → Int32} {B : Nat → Nat → Int64} {Q : xQ} {x : Int32} {f : Nat → Int64} : ∀ (k c : Nat) (g : Nat → Int64), c + k = 64 → Q (.inl (some (.int x))) (HX I A (va_up (va_up B 26 f) 31 (va_cpy (B 30) g c c k))) 0 → xG tb_M_cancel Q (38, [some (.ref 24), some (.int x), some (.int (nI c))], [], (HX I A (va_up (va_up B 26 f) 31 g)), 0)
  | 0, c, g, h, hk => by
    obtain rfl : c = 64 := h
    refine xG.go [6, 12, 36, 38] 30 ?_
    show (((64 : Int32) ≤ (nI 64) → Q (.inl (some (.int x))) (HX I A (va_up (va_up B 26 f) 31 g)) 0) ∧ (¬ (64 : Int32) ≤ (nI 64) → (vp_in (nI 64) 64 ∧ (vp_in (nI 64) 64 ∧ xG tb_M_cancel Q (38, [some (.ref 24), some (.int x), some (.int ((nI 64) + (1 : Int32)))], [], (HX I A (va_up (va_up B 26 f) 31 (vp_updL g (nI 64).toNatClampNeg ((B 30) (nI 64).toNatClampNeg)))), 0)))))
    rw [cpy_0] at hk
    exact br_y (nI_le (a := 64) (b := 64) (by omega) (by omega)) hk
  | k + 1, c, g, h, hk => by
    refine xG.go [6, 12, 36, 38] 30 ?_
    show (((64 : Int32) ≤ (nI c) → Q (.inl (some (.int x))) (HX I A (va_up (va_up B 26 f) 31 g)) 0) ∧ (¬ (64 : Int32) ≤ (nI c) → (vp_in (nI c) 64 ∧ (vp_in (nI c) 64 ∧ xG tb_M_cancel Q (38, [some (.ref 24), some (.int x), some (.int ((nI c) + (1 : Int32)))], [], (HX I A (va_up (va_up B 26 f) 31 (vp_updL g (nI c).toNatClampNeg ((B 30) (nI c).toNatClampNeg)))), 0)))))
    have hin : vp_in (nI c) 64 := vp_in_nI (by omega) (by omega)
    refine br_n (nI_ge (b := 64) (by omega) (by omega)) ⟨hin, hin, ?_⟩
    rw [nI_clamp (by omega), nI_1]
    refine p_M_cancel2 k (c + 1) _ (by omega) ?_
    rw [cpy_s]
    exact hk
theorem p_M_cancel {I : Nat → Int32} {A : Nat → Nat → Int32} {B : Nat → Nat → Int64} {Q : xQ} {n : Nat} {mc : Nat → Nat} (h8 : n ≤ 8) (e0 : I 10 = nI n) (hm : ∀ c, c < n → mc c ≤ 6 ∧ A 29 c = nI (mc c)) (hq : Q (.inl (some (.int (nI (mtot B mc 0 n))))) (HX (va_up I 9 0) A (va_up (va_up B 26 (va_cpy (B 25) (B 26) 0 0 8)) 31 (va_cpy (B 30) (B 31) 0 0 64))) 0) : xRun tb_M_cancel 3 [.ref 24] (HX I A B) Q := by
  refine ⟨Nat.le_of_ble_eq_true rfl, ?_⟩
  refine xG.go [6] 30 ?_
  show xG tb_M_cancel Q (6, [some (.ref 24), none, none], [.ref 24], (HX (va_up I 9 (0 : Int32)) A B), 0)
  refine xG.callV (F := xRun tb_M_moves 4) (a := 24) rfl rfl rfl rfl (p_M_moves (I := va_up I 9 0) h8 e0 hm ?_)
  refine xG.go [6, 12, 36, 38] 30 ?_
  show xG tb_M_cancel Q (12, [some (.ref 24), some (.int (nI (mtot B mc 0 n))), some (.int (nI 0))], [], (HX (va_up I 9 0) A (va_up B 26 (B 26))), 0)
  refine p_M_cancel1 8 0 (B 26) rfl ?_
  refine xG.go [6, 12, 38] 30 ?_
  show xG tb_M_cancel Q (38, [some (.ref 24), some (.int (nI (mtot B mc 0 n))), some (.int (nI 0))], [], (HX (va_up I 9 0) A (va_up (va_up B 26 (va_cpy (B 25) (B 26) 0 0 8)) 31 (B 31))), 0)
  exact p_M_cancel2 64 0 (B 31) rfl hq
theorem vInv.cancel {I : Nat → Int32} {A : Nat → Nat → Int32} {B : Nat → Nat → Int64} (h : vInv I A B) : vInv (va_up I 9 0) A (va_up (va_up (va_up (va_up B 3 (va_cpy (B 2) (B 3) 0 0 8)) 9 (va_cpy (B 8) (B 9) 0 0 64)) 26 (va_cpy (B 25) (B 26) 0 0 8)) 31 (va_cpy (B 30) (B 31) 0 0 64)) := by
  obtain ⟨n, mc, sz, h1, h2, h3, h4, h5, h6⟩ := h
  refine ⟨n, mc, sz, h1, fun c hc => ?_, fun c k hc hk => ?_, h4, ⟨h5.1, fun c hc => ⟨(h5.2.1 c hc).1, ?_, (h5.2.1 c hc).2.2⟩, fun c k hc hk => ⟨(h5.2.2 c k hc hk).1, ?_, (h5.2.2 c k hc hk).2.2⟩⟩, h6⟩
  rotate_left 2
  · show okT (va_cpy (B 2) (B 3) 0 0 8 c)
    have := h1.1
    rw [cpy_in (by omega)]
    exact (h5.2.1 c hc).1
  · show okT (va_cpy (B 8) (B 9) 0 0 64 (8 * c + k))
    have m6 := (h2 c hc).2.2.2.1
    have := h1.1
    rw [cpy_in (by omega)]
    exact (h5.2.2 c k hc hk).1
  · obtain ⟨⟨a1, a2, a3⟩, a4⟩ := h2 c hc
    refine ⟨⟨a1, ?_, a3⟩, a4⟩
    show va_cpy (B 25) (B 26) 0 0 8 c = va_cpy (B 2) (B 3) 0 0 8 c
    rw [cpy_in (by omega), cpy_in (by omega)]
    exact a1
  · obtain ⟨⟨a1, a2, a3⟩, a4⟩ := h3 c k hc hk
    have m6 := (h2 c hc).2.2.2.1
    refine ⟨⟨a1, ?_, a3⟩, a4⟩
    show va_cpy (B 30) (B 31) 0 0 64 (8 * c + k) = va_cpy (B 8) (B 9) 0 0 64 (8 * c + k)
    rw [cpy_in (by omega), cpy_in (by omega)]
    exact a1
theorem j_cancel : J_cancel vInv := by
  intro I A B hV
  obtain ⟨n, mc, ⟨h8, e0, e10⟩, hm, e⟩ := hV.chg
  exact ⟨nI (chg B mc n), I, A, _, va_up I 9 0, A, _, fun Q hq => p_N_cancel h8 e0 (fun c hc => ⟨(hm c hc).1, (hm c hc).2.1⟩) hq, fun Q hq => p_M_cancel (mc := mc) h8 e10 (fun c hc => ⟨(hm c hc).1, (hm c hc).2.2⟩) (by
    have e' : mtot (va_up (va_up B 3 (va_cpy (B 2) (B 3) 0 0 8)) 9 (va_cpy (B 8) (B 9) 0 0 64)) mc 0 n = chg B mc n := (mtot_ext (B := B) (B' := va_up (va_up B 3 (va_cpy (B 2) (B 3) 0 0 8)) 9 (va_cpy (B 8) (B 9) 0 0 64)) rfl rfl rfl rfl n 0).trans e
    rw [e']
    exact hq), hV.cancel⟩
theorem case_7 {L : Nat} {xs : Nat → Int32} : xCase vInv L xs 803 := lcase_7 j_cancel
