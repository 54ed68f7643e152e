def anc (A : Nat → Nat → Int32) (s : Int32) : Int32 := if s = -1 then 0 else A 7 s.toNatClampNeg ||| ((1 : Int32) <<< (s &&& 31))
def plA (A : Nat → Nat → Int32) (n : Nat) (s b : Int32) : Nat → Nat → Int32 := va_up (va_up (va_up (va_up A 4 (upd (A 4) n s)) 5 (upd (A 5) n b)) 6 (upd (A 6) n 0)) 7 (upd (A 7) n (anc A s))
def plB (B : Nat → Nat → Int64) (n : Nat) (t : Int64) : Nat → Nat → Int64 := va_up (va_up B 2 (vp_updL (B 2) n t)) 3 (vp_updL (B 3) n t)
def puA (A : Nat → Nat → Int32) (n : Nat) (s b : Int32) : Nat → Nat → Int32 := va_up (va_up (va_up A 27 (upd (A 27) n s)) 28 (upd (A 28) n b)) 29 (upd (A 29) n 0)
def puB (B : Nat → Nat → Int64) (n : Nat) (t : Int64) : Nat → Nat → Int64 := va_up (va_up B 25 (vp_updL (B 25) n t)) 26 (vp_updL (B 26) n t)
theorem nar_b {b : Int32} (h : b = 0 ∨ b = 1) : vp_nar .boolean b = b := by
  rcases h with rfl | rfl
  · rfl
  · rfl
set_option maxRecDepth 100000 in
theorem p_S_placeClass {I : Nat → Int32} {A : Nat → Nat → Int32} {B : Nat → Nat → Int64} {Q : xQ} {n : Nat} {t : Int64} {s b : Int32} (hn : n < 8) (e0 : I 0 = nI n) (hb : b = 0 ∨ b = 1) (hs : s = -1 ∨ ∃ p, p < 8 ∧ s = nI p) (hq : Q (.inl none) (HX I (plA A n s b) (plB B n t)) 0) : xRun tb_S_placeClass 5 [.ref 1, .long t, .int s, .int b] (HX I A B) Q := by
  refine ⟨Nat.le_of_ble_eq_true rfl, ?_⟩
  refine xG.go [] 50 ?_
  show (vp_in (I 0) 8 ∧ (vp_in (I 0) 8 ∧ (vp_in (I 0) 8 ∧ (vp_in (I 0) 8 ∧ (vp_in (I 0) 8 ∧ ((s = (-1 : Int32) → (vp_in (I 0) 8 ∧ Q (.inl none) (HX I (va_up (va_up (va_up (va_up A 4 (upd (A 4) (I 0).toNatClampNeg s)) 5 (upd (A 5) (I 0).toNatClampNeg (vp_nar .boolean b))) 6 (upd (A 6) (I 0).toNatClampNeg (0 : Int32))) 7 (upd (A 7) (I 0).toNatClampNeg (0 : Int32))) (va_up (va_up B 2 (vp_updL (B 2) (I 0).toNatClampNeg t)) 3 (vp_updL (B 3) (I 0).toNatClampNeg t))) 0)) ∧ (¬ s = (-1 : Int32) → (vp_in s 8 ∧ (vp_in (I 0) 8 ∧ Q (.inl none) (HX I (va_up (va_up (va_up (va_up A 4 (upd (A 4) (I 0).toNatClampNeg s)) 5 (upd (A 5) (I 0).toNatClampNeg (vp_nar .boolean b))) 6 (upd (A 6) (I 0).toNatClampNeg (0 : Int32))) 7 (upd (A 7) (I 0).toNatClampNeg (((A 7) s.toNatClampNeg) ||| ((1 : Int32) <<< (s &&& 31))))) (va_up (va_up B 2 (vp_updL (B 2) (I 0).toNatClampNeg t)) 3 (vp_updL (B 3) (I 0).toNatClampNeg t))) 0)))))))))
  have hin : vp_in (nI n) 8 := vp_in_nI hn (by omega)
  rw [e0, nI_clamp (by omega), nar_b hb]
  unfold plA plB anc at hq
  refine ⟨hin, hin, hin, hin, hin, fun z => ⟨hin, ?_⟩, fun z => ⟨?_, hin, ?_⟩⟩
  · rw [if_pos z] at hq
    exact hq
  · rcases hs with w | ⟨p, hp, rfl⟩
    · exact absurd w z
    · exact vp_in_nI hp (by omega)
  · rw [if_neg z] at hq
    exact hq
set_option maxRecDepth 100000 in
theorem p_M_put {I : Nat → Int32} {A : Nat → Nat → Int32} {B : Nat → Nat → Int64} {Q : xQ} {n : Nat} {t : Int64} {s b : Int32} (hn : n < 8) (e0 : I 10 = nI n) (hb : b = 0 ∨ b = 1) (hq : Q (.inl none) (HX I (puA A n s b) (puB B n t)) 0) : xRun tb_M_put 5 [.ref 24, .long t, .int s, .int b] (HX I A B) Q := by
  refine ⟨Nat.le_of_ble_eq_true rfl, ?_⟩
  refine xG.go [] 50 ?_
  show (vp_in (I 10) 8 ∧ (vp_in (I 10) 8 ∧ (vp_in (I 10) 8 ∧ (vp_in (I 10) 8 ∧ (vp_in (I 10) 8 ∧ Q (.inl none) (HX I (va_up (va_up (va_up A 27 (upd (A 27) (I 10).toNatClampNeg s)) 28 (upd (A 28) (I 10).toNatClampNeg (vp_nar .boolean b))) 29 (upd (A 29) (I 10).toNatClampNeg (0 : Int32))) (va_up (va_up B 25 (vp_updL (B 25) (I 10).toNatClampNeg t)) 26 (vp_updL (B 26) (I 10).toNatClampNeg t))) 0)))))
  have hin : vp_in (nI n) 8 := vp_in_nI hn (by omega)
  rw [e0, nI_clamp (by omega), nar_b hb]
  exact ⟨hin, hin, hin, hin, hin, hq⟩
theorem p_S_countPlacedClass {I : Nat → Int32} {A : Nat → Nat → Int32} {B : Nat → Nat → Int64} {Q : xQ} {n : Nat} (e0 : I 0 = nI n) (hq : Q (.inl (some (.int (nI n)))) (HX (va_up I 0 (nI (n + 1))) A B) 0) : xRun tb_S_countPlacedClass 1 [.ref 1] (HX I A B) Q := by
  refine ⟨Nat.le_of_ble_eq_true rfl, ?_⟩
  refine xG.go [] 30 ?_
  show Q (.inl (some (.int (((I 0) + (1 : Int32)) - (1 : Int32))))) (HX (va_up I 0 ((I 0) + (1 : Int32))) A B) 0
  rw [e0, nI_1, nI_pred]
  exact hq
