-- the member that a class has itself: the class's first, the reference's last
def owN (f g : Nat → Int64) (t d : Int64) (c : Nat) : Nat → Nat → Int32
  | 0, _ => -1
  | k + 1, i => if f (8 * c + i) = t ∧ g (8 * c + i) = d then nI (8 * c + i) else owN f g t d c k (i + 1)
def hsN (f g : Nat → Int64) (t d : Int64) (c : Nat) : Nat → Nat → Int32 → Int32
  | 0, _, r => r
  | k + 1, i, r => hsN f g t d c k (i + 1) (if f (8 * c + i) = t ∧ g (8 * c + i) = d then nI i else r)
theorem p_S_ownMember_l {I : Nat → Int32} {A : Nat → Nat → Int32} {B : Nat → Nat → Int64} {Q : xQ} {t d : Int64} {c m : Nat} (hc : c < 8) (hm : m ≤ 6) (e6 : A 6 c = nI m) : ∀ (k i : Nat) (w : Option Value), i + k = m → Q (.inl (some (.int (owN (B 8) (B 10) t d c k i)))) (HX I A B) 0 → xG tb_S_ownMember Q (3, [some (.ref 1), some (.int (nI c)), some (.long t), none, some (.long d), none, some (.int (nI i)), w], [], (HX I A B), 0)
  | 0, i, w, h, hq => by
    refine xG.go [3, 17] 60 ?_
    show (vp_in (nI c) 8 ∧ ((((A 6) (nI c).toNatClampNeg) ≤ (nI i) → Q (.inl (some (.int (-1 : Int32)))) (HX I A B) 0) ∧ (¬ ((A 6) (nI c).toNatClampNeg) ≤ (nI i) → xG tb_S_ownMember Q (17, [some (.ref 1), some (.int (nI c)), some (.long t), none, some (.long d), none, some (.int (nI i)), w], [.int (nI i), .int (nI c)], (HX I A B), 0))))
    rw [nI_clamp (by omega), e6]
    exact ⟨vp_in_nI hc (by omega), br_y (nI_le (by omega) (by omega)) hq⟩
  | k + 1, i, w, h, hq => by
    refine xG.go [3, 17] 60 ?_
    show (vp_in (nI c) 8 ∧ ((((A 6) (nI c).toNatClampNeg) ≤ (nI i) → Q (.inl (some (.int (-1 : Int32)))) (HX I A B) 0) ∧ (¬ ((A 6) (nI c).toNatClampNeg) ≤ (nI i) → xG tb_S_ownMember Q (17, [some (.ref 1), some (.int (nI c)), some (.long t), none, some (.long d), none, some (.int (nI i)), w], [.int (nI i), .int (nI c)], (HX I A B), 0))))
    rw [nI_clamp (by omega), e6]
    refine ⟨vp_in_nI hc (by omega), br_n (nI_ge (by omega) (by omega)) ?_⟩
    refine xG.call (F := xRun tb_S_number 2) rfl rfl (p_S_number ?_)
    rw [nI_num]
    refine xG.go [3, 17] 60 ?_
    show (vp_in (nI (8 * c + i)) 64 ∧ (((lg_cmp ((B 8) (nI (8 * c + i)).toNatClampNeg) t) = 0 → (vp_in (nI (8 * c + i)) 64 ∧ (((lg_cmp ((B 10) (nI (8 * c + i)).toNatClampNeg) d) = 0 → Q (.inl (some (.int (nI (8 * c + i))))) (HX I A B) 0) ∧ (¬ (lg_cmp ((B 10) (nI (8 * c + i)).toNatClampNeg) d) = 0 → xG tb_S_ownMember Q (3, [some (.ref 1), some (.int (nI c)), some (.long t), none, some (.long d), none, some (.int ((nI i) + (1 : Int32))), some (.int (nI (8 * c + i)))], [], (HX I A B), 0))))) ∧ (¬ (lg_cmp ((B 8) (nI (8 * c + i)).toNatClampNeg) t) = 0 → xG tb_S_ownMember Q (3, [some (.ref 1), some (.int (nI c)), some (.long t), none, some (.long d), none, some (.int ((nI i) + (1 : Int32))), some (.int (nI (8 * c + i)))], [], (HX I A B), 0))))
    rw [nI_clamp (by omega), nI_1]
    have hin : vp_in (nI (8 * c + i)) 64 := vp_in_nI (by omega) (by omega)
    unfold owN at hq
    refine ⟨hin, fun z1 => ⟨hin, fun z2 => ?_, fun z2 => ?_⟩, fun z1 => ?_⟩
    · rw [if_pos ⟨(lg_cmp_eq _ _).mp z1, (lg_cmp_eq _ _).mp z2⟩] at hq
      exact hq
    · rw [if_neg (fun q => z2 ((lg_cmp_eq _ _).mpr q.2))] at hq
      exact p_S_ownMember_l hc hm e6 k (i + 1) _ (by omega) hq
    · rw [if_neg (fun q => z1 ((lg_cmp_eq _ _).mpr q.1))] at hq
      exact p_S_ownMember_l hc hm e6 k (i + 1) _ (by omega) hq
theorem p_S_ownMember {I : Nat → Int32} {A : Nat → Nat → Int32} {B : Nat → Nat → Int64} {Q : xQ} {t d : Int64} {c m : Nat} (hc : c < 8) (hm : m ≤ 6) (e6 : A 6 c = nI m) (hq : Q (.inl (some (.int (owN (B 8) (B 10) t d c m 0)))) (HX I A B) 0) : xRun tb_S_ownMember 8 [.ref 1, .int (nI c), .long t, .long d] (HX I A B) Q := by
  refine ⟨Nat.le_of_ble_eq_true rfl, ?_⟩
  refine xG.go [3, 17] 20 ?_
  show xG tb_S_ownMember Q (3, [some (.ref 1), some (.int (nI c)), some (.long t), none, some (.long d), none, some (.int (nI 0)), none], [], (HX I A B), 0)
  exact p_S_ownMember_l hc hm e6 m 0 none (Nat.zero_add m) hq
theorem p_M_has_l {I : Nat → Int32} {A : Nat → Nat → Int32} {B : Nat → Nat → Int64} {Q : xQ} {t d : Int64} {c m : Nat} (hc : c < 8) (hm : m ≤ 6) (e6 : A 29 c = nI m) : ∀ (k i : Nat) (r : Int32), i + k = m → Q (.inl (some (.int (hsN (B 30) (B 32) t d c k i r)))) (HX I A B) 0 → xG tb_M_has Q (6, [some (.ref 24), some (.int (nI c)), some (.long t), none, some (.long d), none, some (.int r), some (.int (nI i))], [], (HX I A B), 0)
  | 0, i, r, h, hq => by
    refine xG.go [6] 60 ?_
    show (vp_in (nI c) 8 ∧ ((((A 29) (nI c).toNatClampNeg) ≤ (nI i) → Q (.inl (some (.int r))) (HX I A B) 0) ∧ (¬ ((A 29) (nI c).toNatClampNeg) ≤ (nI i) → (vp_in (((8 : Int32) * (nI c)) + (nI i)) 64 ∧ (((lg_cmp ((B 30) (((8 : Int32) * (nI c)) + (nI i)).toNatClampNeg) t) = 0 → (vp_in (((8 : Int32) * (nI c)) + (nI i)) 64 ∧ (((lg_cmp ((B 32) (((8 : Int32) * (nI c)) + (nI i)).toNatClampNeg) d) = 0 → xG tb_M_has Q (6, [some (.ref 24), some (.int (nI c)), some (.long t), none, some (.long d), none, some (.int (nI i)), some (.int ((nI i) + (1 : Int32)))], [], (HX I A B), 0)) ∧ (¬ (lg_cmp ((B 32) (((8 : Int32) * (nI c)) + (nI i)).toNatClampNeg) d) = 0 → xG tb_M_has Q (6, [some (.ref 24), some (.int (nI c)), some (.long t), none, some (.long d), none, some (.int r), some (.int ((nI i) + (1 : Int32)))], [], (HX I A B), 0))))) ∧ (¬ (lg_cmp ((B 30) (((8 : Int32) * (nI c)) + (nI i)).toNatClampNeg) t) = 0 → xG tb_M_has Q (6, [some (.ref 24), some (.int (nI c)), some (.long t), none, some (.long d), none, some (.int r), some (.int ((nI i) + (1 : Int32)))], [], (HX I A B), 0)))))))
    rw [nI_clamp (by omega), e6]
    exact ⟨vp_in_nI hc (by omega), br_y (nI_le (by omega) (by omega)) hq⟩
  | k + 1, i, r, h, hq => by
    refine xG.go [6] 60 ?_
    show (vp_in (nI c) 8 ∧ ((((A 29) (nI c).toNatClampNeg) ≤ (nI i) → Q (.inl (some (.int r))) (HX I A B) 0) ∧ (¬ ((A 29) (nI c).toNatClampNeg) ≤ (nI i) → (vp_in (((8 : Int32) * (nI c)) + (nI i)) 64 ∧ (((lg_cmp ((B 30) (((8 : Int32) * (nI c)) + (nI i)).toNatClampNeg) t) = 0 → (vp_in (((8 : Int32) * (nI c)) + (nI i)) 64 ∧ (((lg_cmp ((B 32) (((8 : Int32) * (nI c)) + (nI i)).toNatClampNeg) d) = 0 → xG tb_M_has Q (6, [some (.ref 24), some (.int (nI c)), some (.long t), none, some (.long d), none, some (.int (nI i)), some (.int ((nI i) + (1 : Int32)))], [], (HX I A B), 0)) ∧ (¬ (lg_cmp ((B 32) (((8 : Int32) * (nI c)) + (nI i)).toNatClampNeg) d) = 0 → xG tb_M_has Q (6, [some (.ref 24), some (.int (nI c)), some (.long t), none, some (.long d), none, some (.int r), some (.int ((nI i) + (1 : Int32)))], [], (HX I A B), 0))))) ∧ (¬ (lg_cmp ((B 30) (((8 : Int32) * (nI c)) + (nI i)).toNatClampNeg) t) = 0 → xG tb_M_has Q (6, [some (.ref 24), some (.int (nI c)), some (.long t), none, some (.long d), none, some (.int r), some (.int ((nI i) + (1 : Int32)))], [], (HX I A B), 0)))))))
    rw [nI_num, nI_clamp (by omega), nI_clamp (by omega), e6, nI_1]
    have hin : vp_in (nI (8 * c + i)) 64 := vp_in_nI (by omega) (by omega)
    unfold hsN at hq
    refine ⟨vp_in_nI hc (by omega), br_n (nI_ge (by omega) (by omega)) ⟨hin, fun z1 => ⟨hin, fun z2 => ?_, fun z2 => ?_⟩, fun z1 => ?_⟩⟩
    · rw [if_pos ⟨(lg_cmp_eq _ _).mp z1, (lg_cmp_eq _ _).mp z2⟩] at hq
      exact p_M_has_l hc hm e6 k (i + 1) _ (by omega) hq
    · rw [if_neg (fun q => z2 ((lg_cmp_eq _ _).mpr q.2))] at hq
      exact p_M_has_l hc hm e6 k (i + 1) _ (by omega) hq
    · rw [if_neg (fun q => z1 ((lg_cmp_eq _ _).mpr q.1))] at hq
      exact p_M_has_l hc hm e6 k (i + 1) _ (by omega) hq
theorem p_M_has {I : Nat → Int32} {A : Nat → Nat → Int32} {B : Nat → Nat → Int64} {Q : xQ} {t d : Int64} {c m : Nat} (hc : c < 8) (hm : m ≤ 6) (e6 : A 29 c = nI m) (hq : Q (.inl (some (.int (hsN (B 30) (B 32) t d c m 0 (-1))))) (HX I A B) 0) : xRun tb_M_has 8 [.ref 24, .int (nI c), .long t, .long d] (HX I A B) Q := by
  refine ⟨Nat.le_of_ble_eq_true rfl, ?_⟩
  refine xG.go [6] 20 ?_
  show xG tb_M_has Q (6, [some (.ref 24), some (.int (nI c)), some (.long t), none, some (.long d), none, some (.int (-1)), some (.int (nI 0))], [], (HX I A B), 0)
  exact p_M_has_l hc hm e6 m 0 _ (Nat.zero_add m) hq
theorem owN_no {f g : Nat → Int64} {t d : Int64} {c : Nat} : ∀ (k i : Nat), (∀ j, i ≤ j → j < i + k → ¬ (f (8 * c + j) = t ∧ g (8 * c + j) = d)) → owN f g t d c k i = -1
  | 0, i, h => rfl
  | k + 1, i, h => by
    unfold owN
    rw [if_neg (h i (by omega) (by omega))]
    exact owN_no k (i + 1) (fun j h1 h2 => h j (by omega) (by omega))
theorem hsN_no {f g : Nat → Int64} {t d : Int64} {c : Nat} : ∀ (k i : Nat) (r : Int32), (∀ j, i ≤ j → j < i + k → ¬ (f (8 * c + j) = t ∧ g (8 * c + j) = d)) → hsN f g t d c k i r = r
  | 0, i, r, h => rfl
  | k + 1, i, r, h => by
    unfold hsN
    rw [if_neg (h i (by omega) (by omega))]
    exact hsN_no k (i + 1) r (fun j h1 h2 => h j (by omega) (by omega))
theorem owN_yes {f g : Nat → Int64} {t d : Int64} {c x : Nat} (hx : f (8 * c + x) = t ∧ g (8 * c + x) = d) : ∀ (k i : Nat), i ≤ x → x < i + k → (∀ j, i ≤ j → j < i + k → f (8 * c + j) = t ∧ g (8 * c + j) = d → j = x) → owN f g t d c k i = nI (8 * c + x)
  | 0, i, h1, h2, h => by omega
  | k + 1, i, h1, h2, h => by
    unfold owN
    by_cases w : f (8 * c + i) = t ∧ g (8 * c + i) = d
    · rw [if_pos w, h i (by omega) (by omega) w]
    · rw [if_neg w]
      have : i ≠ x := fun z => w (z ▸ hx)
      exact owN_yes hx k (i + 1) (by omega) (by omega) (fun j h1 h2 => h j (by omega) (by omega))
theorem hsN_yes {f g : Nat → Int64} {t d : Int64} {c x : Nat} (hx : f (8 * c + x) = t ∧ g (8 * c + x) = d) : ∀ (k i : Nat) (r : Int32), i ≤ x → x < i + k → (∀ j, i ≤ j → j < i + k → f (8 * c + j) = t ∧ g (8 * c + j) = d → j = x) → hsN f g t d c k i r = nI x
  | 0, i, r, h1, h2, h => by omega
  | k + 1, i, r, h1, h2, h => by
    unfold hsN
    by_cases w : f (8 * c + i) = t ∧ g (8 * c + i) = d
    · have e := h i (by omega) (by omega) w
      subst e
      rw [if_pos w]
      exact hsN_no k (i + 1) _ (fun j h3 h4 z => by have := h j (by omega) (by omega) z; omega)
    · rw [if_neg w]
      have : i ≠ x := fun z => w (z ▸ hx)
      exact hsN_yes hx k (i + 1) r (by omega) (by omega) (fun j h1 h2 => h j (by omega) (by omega))
/-- both sides' answers about an own member: none on both, or the same one -/
theorem own_has {f g f' g' : Nat → Int64} {t d : Int64} {c m : Nat} (hf : ∀ k, k < m → f' (8 * c + k) = f (8 * c + k) ∧ g' (8 * c + k) = g (8 * c + k)) (hu : ∀ k l, k < m → l < m → f (8 * c + k) = f (8 * c + l) → g (8 * c + k) = g (8 * c + l) → k = l) :
    (owN f g t d c m 0 = -1 ∧ hsN f' g' t d c m 0 (-1) = -1 ∧ ∀ k, k < m → ¬ (f (8 * c + k) = t ∧ g (8 * c + k) = d)) ∨ ∃ k, k < m ∧ f (8 * c + k) = t ∧ g (8 * c + k) = d ∧ owN f g t d c m 0 = nI (8 * c + k) ∧ hsN f' g' t d c m 0 (-1) = nI k := by
  by_cases q : ∃ k, k < m ∧ f (8 * c + k) = t ∧ g (8 * c + k) = d
  · obtain ⟨x, hx, e1, e2⟩ := q
    refine Or.inr ⟨x, hx, e1, e2, owN_yes ⟨e1, e2⟩ m 0 (by omega) (by omega) (fun j _ h2 h3 => hu j x (by omega) hx (h3.1.trans e1.symm) (h3.2.trans e2.symm)), hsN_yes ⟨(hf x hx).1.trans e1, (hf x hx).2.trans e2⟩ m 0 (-1) (by omega) (by omega) (fun j _ h2 h3 => ?_)⟩
    have hj : j < m := by omega
    exact hu j x hj hx ((hf j hj).1.symm.trans (h3.1.trans e1.symm)) ((hf j hj).2.symm.trans (h3.2.trans e2.symm))
  · have q' : ∀ k, k < m → ¬ (f (8 * c + k) = t ∧ g (8 * c + k) = d) := fun k hk e => q ⟨k, hk, e⟩
    exact Or.inl ⟨owN_no m 0 (fun j _ h2 => q' j (by omega)), hsN_no m 0 (-1) (fun j _ h2 h3 => q' j (by omega) (by rw [(hf j (by omega)).1, (hf j (by omega)).2] at h3; exact h3)), q'⟩
