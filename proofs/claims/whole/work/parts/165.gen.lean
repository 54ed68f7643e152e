-- classes()
theorem p_N_classes {I : Nat → Int32} {A : Nat → Nat → Int32} {B : Nat → Nat → Int64} {Q : xQ} (hq : Q (.inl (some (.int (I 0)))) (HX I A B) 0) : xRun tb_N_classes 1 [.ref 0] (HX I A B) Q := by
  refine ⟨Nat.le_of_ble_eq_true rfl, xG.go [] 30 ?_⟩
  show Q (.inl (some (.int (I 0)))) (HX I A B) 0
  exact hq
theorem p_M_classes {I : Nat → Int32} {A : Nat → Nat → Int32} {B : Nat → Nat → Int64} {Q : xQ} (hq : Q (.inl (some (.int (I 10)))) (HX (va_up I 9 0) A B) 0) : xRun tb_M_classes 1 [.ref 24] (HX I A B) Q := by
  refine ⟨Nat.le_of_ble_eq_true rfl, xG.go [] 30 ?_⟩
  show Q (.inl (some (.int (I 10)))) (HX (va_up I 9 (0 : Int32)) A B) 0
  exact hq
theorem p_M_thrown {I : Nat → Int32} {A : Nat → Nat → Int32} {B : Nat → Nat → Int64} {Q : xQ} (hq : Q (.inl (some (.int (I 9)))) (HX I A B) 0) : xRun tb_M_thrown 1 [.ref 24] (HX I A B) Q := by
  refine ⟨Nat.le_of_ble_eq_true rfl, xG.go [] 30 ?_⟩
  show Q (.inl (some (.int (I 9)))) (HX I A B) 0
  exact hq
