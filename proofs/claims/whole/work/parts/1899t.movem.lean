-- moveMember, jointly
theorem upL_same {g : Nat → Int64} {x : Nat} : vp_updL g x (g x) = g := by
  funext j
  by_cases w : j = x
  · rw [w, pk_uLs]
  · rw [pk_uLn w]
theorem p_M_mm_l {I : Nat → Int32} {A : Nat → Nat → Int32} {B : Nat → Nat → Int64} {Q : xQ} {n : Nat} {c k x5 : Int32} {t : Int64} {f : Nat → Int32} (hA : A 34 = f) : ∀ (q x : Nat) (g : Nat → Int64), x + q = 64 → Q (.inl (some (.int x5))) (HX I A (va_up B 31 (rnM (fun j => !decide (f j = 0)) (fun _ => t) g x q))) 0 → xG tb_M_moveMember Q (54, [some (.ref 24), some (.int c), some (.int k), some (.long t), none, some (.int x5), some (.int (nI x))], [], HX I A (va_up B 31 g), 0)
  | 0, x, g, e, hq => by
    refine xG.go [4, 16, 46, 54] 60 ?_
    show (((64 : Int32) ≤ (nI x) → Q (.inl (some (.int x5))) (HX I A (va_up B 31 g)) 0) ∧ (¬ (64 : Int32) ≤ (nI x) → (vp_in (nI x) 64 ∧ ((((A 34) (nI x).toNatClampNeg) = 0 → (vp_in (nI x) 64 ∧ (vp_in (nI x) 64 ∧ xG tb_M_moveMember Q (54, [some (.ref 24), some (.int c), some (.int k), some (.long t), none, some (.int x5), some (.int ((nI x) + (1 : Int32)))], [], (HX I A (va_up B 31 (vp_updL g (nI x).toNatClampNeg (g (nI x).toNatClampNeg)))), 0)))) ∧ (¬ ((A 34) (nI x).toNatClampNeg) = 0 → (vp_in (nI x) 64 ∧ xG tb_M_moveMember Q (54, [some (.ref 24), some (.int c), some (.int k), some (.long t), none, some (.int x5), some (.int ((nI x) + (1 : Int32)))], [], (HX I A (va_up B 31 (vp_updL g (nI x).toNatClampNeg t))), 0)))))))
    rw [rnM_0] at hq
    exact br_y (nI_le (a := 64) (by omega) (by omega)) hq
  | q + 1, x, g, e, hq => by
    refine xG.go [4, 16, 46, 54] 60 ?_
    show (((64 : Int32) ≤ (nI x) → Q (.inl (some (.int x5))) (HX I A (va_up B 31 g)) 0) ∧ (¬ (64 : Int32) ≤ (nI x) → (vp_in (nI x) 64 ∧ ((((A 34) (nI x).toNatClampNeg) = 0 → (vp_in (nI x) 64 ∧ (vp_in (nI x) 64 ∧ xG tb_M_moveMember Q (54, [some (.ref 24), some (.int c), some (.int k), some (.long t), none, some (.int x5), some (.int ((nI x) + (1 : Int32)))], [], (HX I A (va_up B 31 (vp_updL g (nI x).toNatClampNeg (g (nI x).toNatClampNeg)))), 0)))) ∧ (¬ ((A 34) (nI x).toNatClampNeg) = 0 → (vp_in (nI x) 64 ∧ xG tb_M_moveMember Q (54, [some (.ref 24), some (.int c), some (.int k), some (.long t), none, some (.int x5), some (.int ((nI x) + (1 : Int32)))], [], (HX I A (va_up B 31 (vp_updL g (nI x).toNatClampNeg t))), 0)))))))
    have hin : vp_in (nI x) 64 := vp_in_nI (by omega) (by omega)
    rw [nI_1, nI_clamp (by omega), hA]
    rw [← rnM_s] at hq
    refine br_n (nI_ge (b := 64) (by omega) (by omega)) ⟨hin, fun z => ⟨hin, hin, ?_⟩, fun z => ⟨hin, ?_⟩⟩
    · rw [decide_eq_true z, if_neg (by decide)] at hq
      rw [upL_same]
      exact p_M_mm_l (n := n) hA q (x + 1) g (by omega) hq
    · rw [decide_eq_false z, if_pos (show (!false) = true from rfl)] at hq
      exact p_M_mm_l (n := n) hA q (x + 1) _ (by omega) hq
theorem p_M_moveMember {I : Nat → Int32} {A : Nat → Nat → Int32} {B B' : Nat → Nat → Int64} {Q : xQ} {n : Nat} {c k : Int32} {mc : Nat → Nat} {t : Int64} (hS : vSame n mc A B B') (e0 : I 10 = nI n) (hu : uni B n mc) (h1 : isMb (I 10) (A 29) c k = false → Q (.inl (some (.int 0))) (HX (va_up I 9 1) A B') 0) (h2 : isMb (I 10) (A 29) c k = true → isId t = false → Q (.inl (some (.int 0))) (HX (va_up I 9 2) A B') 0) (h0 : ∀ i j f, i < n → j < mc i → c = nI i → k = nI j → isId t = true → (∀ y, y < 64 → (f y = 0 ∨ f y = 1) ∧ (f y = 1 ↔ fmB A B mc n (8 * i + j) y = true)) → Q (.inl (some (.int (nI (cgo (fmB A B mc n (8 * i + j)) (8 * n) 0))))) (HX (va_up I 9 0) (va_up A 34 f) (va_up B' 31 (rnM (fun j => !decide (f j = 0)) (fun _ => t) (B' 31) 0 64))) 0) : xRun tb_M_moveMember 7 [.ref 24, .int c, .int k, .long t] (HX I A B') Q := by
  have h8 := hS.h8
  refine ⟨Nat.le_of_ble_eq_true rfl, ?_⟩
  refine xG.go [4, 16, 46, 54] 60 ?_
  show xG tb_M_moveMember Q (4, [some (.ref 24), some (.int c), some (.int k), some (.long t), none, none, none], [.int k, .int c, .ref 24, .ref 24], (HX I A B'), 0)
  refine xG.callV (F := xRun tb_M_isMember 3) (a := 24) rfl rfl rfl rfl (p_M_isMember h8 e0 ?_)
  refine xG.go [4, 16, 46, 54] 60 ?_
  show (((bI (isMb (I 10) (A 29) c k)) = 0 → (((1 : Int32) ≤ 0 → xG tb_M_moveMember Q (46, [some (.ref 24), some (.int c), some (.int k), some (.long t), none, none, none], [.int (((8 : Int32) * c) + k), .ref 24], (HX (va_up I 9 (1 : Int32)) A B'), 0)) ∧ (¬ (1 : Int32) ≤ 0 → Q (.inl (some (.int (0 : Int32)))) (HX (va_up I 9 (1 : Int32)) A B') 0))) ∧ (¬ (bI (isMb (I 10) (A 29) c k)) = 0 → xG tb_M_moveMember Q (16, [some (.ref 24), some (.int c), some (.int k), some (.long t), none, none, none], [.int (1 : Int32), .long t, .ref 24], (HX I A B'), 0)))
  cases hb : isMb (I 10) (A 29) c k with
  | false => exact br_y rfl (br_n (by decide) (h1 hb))
  | true =>
    refine br_n (by decide) ?_
    refine xG.call (F := xRun tb_M_isName 8) rfl rfl (p_M_isName (al := true) ?_)
    rw [mName_id]
    refine xG.go [4, 16, 46, 54] 60 ?_
    show (((bI (isId t)) = 0 → (((2 : Int32) ≤ 0 → xG tb_M_moveMember Q (46, [some (.ref 24), some (.int c), some (.int k), some (.long t), none, none, none], [.int (((8 : Int32) * c) + k), .ref 24], (HX (va_up I 9 (2 : Int32)) A B'), 0)) ∧ (¬ (2 : Int32) ≤ 0 → Q (.inl (some (.int (0 : Int32)))) (HX (va_up I 9 (2 : Int32)) A B') 0))) ∧ (¬ (bI (isId t)) = 0 → (((0 : Int32) ≤ 0 → xG tb_M_moveMember Q (46, [some (.ref 24), some (.int c), some (.int k), some (.long t), none, none, none], [.int (((8 : Int32) * c) + k), .ref 24], (HX (va_up I 9 (0 : Int32)) A B'), 0)) ∧ (¬ (0 : Int32) ≤ 0 → Q (.inl (some (.int (0 : Int32)))) (HX (va_up I 9 (0 : Int32)) A B') 0))))
    cases ht : isId t with
    | false => exact br_y rfl (br_n (by decide) (h2 hb ht))
    | true =>
      obtain ⟨i, j, hi, hj, rfl, rfl⟩ := isMb_ix h8 e0 hS.hr hb
      rw [nI_num]
      refine br_n (by decide) (br_y (by decide) ?_)
      refine xG.callV (F := xRun tb_M_family 7) (a := 24) rfl rfl rfl rfl (p_M_family (I := va_up I 9 0) hS e0 hu (numB_ck hi hj (hS.hr i hi).1) (fun f hf => ?_))
      refine xG.go [4, 16, 46, 54] 30 ?_
      show xG tb_M_moveMember Q (54, [some (.ref 24), some (.int (nI i)), some (.int (nI j)), some (.long t), none, some (.int (nI (cgo (fmB A B mc n (8 * i + j)) (8 * n) 0))), some (.int (nI 0))], [], HX (va_up I 9 0) (va_up A 34 f) B', 0)
      have := p_M_mm_l (Q := Q) (I := va_up I 9 0) (A := va_up A 34 f) (B := B') (c := nI i) (k := nI j) (t := t) (n := n) (x5 := nI (cgo (fmB A B mc n (8 * i + j)) (8 * n) 0)) (f := f) rfl 64 0 (B' 31) rfl (h0 i j f hi hj rfl rfl ht hf)
      rw [up_same] at this
      exact this
theorem vInv.mvm {I : Nat → Int32} {A : Nat → Nat → Int32} {B : Nat → Nat → Int64} {n m : Nat} {mc : Nat → Nat} {t : Int64} {f : Nat → Int32} {g : Nat → Int64} (h : vInv I A B) (e0 : I 0 = nI n) (hS : vSame n mc A B B) (ht : okT t) (hf : ∀ y, y < 64 → (f y = 0 ∨ f y = 1) ∧ (f y = 1 ↔ fmB A B mc n m y = true)) : vInv (va_up I 9 0) (va_up A 34 f) (va_up (va_up (va_up B 9 (rnM (fmB A B mc n m) (fun _ => t) (B 9) 0 (8 * n))) 41 g) 31 (rnM (fun j => !decide (f j = 0)) (fun _ => t) (B 31) 0 64)) := by
  obtain ⟨n', mc', sz, h1, h2, h3, h4, h5, h6⟩ := h
  have h8 := hS.h8
  obtain rfl : n = n' := (nI_eq (by omega) (by omega)).mp (e0.symm.trans h1.2.1)
  refine ⟨n, mc', sz, h1, h2, fun c k hc hk => ?_, h4, ⟨h5.1, h5.2.1, fun c k hc hk => ?_⟩, h6⟩
  · obtain ⟨⟨a1, a2, a3⟩, a4⟩ := h3 c k hc hk
    have m6 := (h2 c hc).2.2.2.1
    refine ⟨⟨a1, ?_, a3⟩, a4⟩
    show rnM (fun j => !decide (f j = 0)) (fun _ => t) (B 31) 0 64 (8 * c + k) = rnM (fmB A B mc n m) (fun _ => t) (B 9) 0 (8 * n) (8 * c + k)
    obtain ⟨q1, q2⟩ := hf (8 * c + k) (by omega)
    unfold rnM
    by_cases w : f (8 * c + k) = 1
    · rw [if_pos ⟨by omega, by omega, by show (!decide (f (8 * c + k) = 0)) = true; rw [w]; decide⟩, if_pos ⟨by omega, by omega, q2.mp w⟩]
    · have w0 : f (8 * c + k) = 0 := q1.elim id (fun z => absurd z w)
      rw [if_neg (fun z => by have z3 : (!decide (f (8 * c + k) = 0)) = true := z.2.2; rw [w0] at z3; exact absurd z3 (by decide)), if_neg (fun z => w (q2.mpr z.2.2))]
      exact a2
  · obtain ⟨b1, b2, b3⟩ := h5.2.2 c k hc hk
    refine ⟨b1, ?_, b3⟩
    show okT (rnM (fmB A B mc n m) (fun _ => t) (B 9) 0 (8 * n) (8 * c + k))
    unfold rnM
    split
    · exact ht
    · exact b2
theorem isMb_t {n i j : Nat} {m : Int32} {g : Nat → Int32} {mc : Nat → Nat} (h8 : n ≤ 8) (e0 : m = nI n) (hm : ∀ c, c < n → mc c ≤ 6 ∧ g c = nI (mc c)) (hi : i < n) (hj : j < mc i) : isMb m g (nI i) (nI j) = true := by
  have h6 := (hm i hi).1
  unfold isMb
  rw [e0, isC_nI (by omega) (by omega), decide_eq_true hi, nI_clamp (by omega), (hm i hi).2, isC_nI (by omega) (by omega), decide_eq_true hj]
  rfl
theorem k_moveMember : K_moveMember vInv := by
  intro I A B c k t hV
  have hV' := hV
  obtain ⟨n, mc, sz, ⟨h8, e0, e10⟩, h2, h3, h4, h5, -⟩ := hV'
  have hS : vSame n mc A B B := ⟨h8, fun c hc => ⟨(h2 c hc).2.2.2.1, (h2 c hc).2.2.2.2.1⟩, fun c hc => ⟨(h2 c hc).2.2.2.1, (h2 c hc).2.2.2.2.2⟩, fun c hc => ⟨(h5.2.1 c hc).2.2, (h2 c hc).1.2.2.1⟩, fun c hc => ⟨(h2 c hc).1.1, (h2 c hc).1.2.1, (h2 c hc).1.2.2.2⟩, fun c k hc hk => (h3 c k hc hk).1⟩
  have hs : isMb (I 10) (A 29) c k = isMb (I 0) (A 6) c k := by
    rw [e10, ← e0]
    exact isMb_same h8 e0 (fun c hc => (h2 c hc).2.2.2.2.2.trans (h2 c hc).2.2.2.2.1.symm)
  cases h : isMb (I 0) (A 6) c k with
  | false =>
    refine ⟨1, 1, 0, fun I1 A1 B1 => I = I1 ∧ A = A1 ∧ B = B1, fun Q hq => p_L_moveMember h8 e0 hS.hm (fun _ => hq _ _ _ ⟨rfl, rfl, rfl⟩) (fun w => by rw [h] at w; cases w) (fun i j hi hj ei ej => ?_), Nat.le_refl 1, ?_⟩
    · rw [ei, ej, isMb_t h8 e0 hS.hm hi hj] at h; cases h
    · rintro _ _ _ ⟨rfl, rfl, rfl⟩ Q hq
      exact p_M_moveMember hS e10 h5.1 (fun _ => hq _ _ _ rfl (fun z => absurd z (by decide)) hV) (fun w => by rw [hs, h] at w; cases w) (fun i j f hi hj ei ej => by rw [ei, ej, isMb_t h8 e0 hS.hm hi hj] at h; cases h)
  | true =>
    cases ht : isId t with
    | false =>
      refine ⟨2, 1, 0, fun I1 A1 B1 => I = I1 ∧ A = A1 ∧ B = B1, fun Q hq => p_L_moveMember h8 e0 hS.hm (fun w => by rw [h] at w; cases w) (fun _ _ => hq _ _ _ ⟨rfl, rfl, rfl⟩) (fun i j hi hj ei ej w => by rw [ht] at w; cases w), Nat.le_refl 1, ?_⟩
      rintro _ _ _ ⟨rfl, rfl, rfl⟩ Q hq
      exact p_M_moveMember hS e10 h5.1 (fun w => by rw [hs, h] at w; cases w) (fun _ _ => hq _ _ _ rfl (fun z => absurd z (by decide)) hV) (fun i j f hi hj ei ej w => by rw [ht] at w; cases w)
    | true =>
      obtain ⟨i, j, hi, hj, rfl, rfl⟩ := isMb_ix h8 e0 hS.hm h
      have h6 := (hS.hm i hi).1
      have inj : ∀ i' j', i' < n → j' < mc i' → nI i = nI i' → nI j = nI j' → i = i' ∧ j = j' := fun i' j' hi' hj' e1 e2 => ⟨(nI_eq (by omega) (by omega)).mp e1, (nI_eq (by omega) (by have := (hS.hm i' hi').1; omega)).mp e2⟩
      refine ⟨0, 0, nI (cgo (fmB A B mc n (8 * i + j)) (8 * n) 0), fun I1 A1 B1 => I = I1 ∧ A = A1 ∧ va_up (va_up B 9 (rnM (fmB A B mc n (8 * i + j)) (fun _ => t) (B 9) 0 (8 * n))) 41 (vp_updL (B 41) 0 (nI (cgo (fmB A B mc n (8 * i + j)) (8 * n) 0)).toInt64) = B1, fun Q hq => p_L_moveMember h8 e0 hS.hm (fun w => by rw [h] at w; cases w) (fun _ w => by rw [ht] at w; cases w) (fun i' j' hi' hj' ei ej _ => by obtain ⟨rfl, rfl⟩ := inj i' j' hi' hj' ei ej; exact hq _ _ _ ⟨rfl, rfl, rfl⟩), Nat.zero_le 1, ?_⟩
      rintro _ _ _ ⟨rfl, rfl, rfl⟩ Q hq
      refine p_M_moveMember (n := n) (mc := mc) (B := B) hS e10 h5.1 (fun w => by rw [hs, h] at w; cases w) (fun _ w => by rw [ht] at w; cases w) (fun i' j' f hi' hj' ei ej _ hf => ?_)
      obtain ⟨rfl, rfl⟩ := inj i' j' hi' hj' ei ej
      exact hq _ _ _ rfl (fun _ => (pk_uLs : vp_updL (B 41) 0 (nI (cgo (fmB A B mc n (8 * i + j)) (8 * n) 0)).toInt64 0 = _)) (hV.mvm e0 hS (okT_id ht) hf)
theorem case_4 {L : Nat} {xs : Nat → Int32} : xCase vInv L xs 634 := kcase_4 k_moveMember
