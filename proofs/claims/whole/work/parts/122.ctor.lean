abbrev at_B_init (dC : Nat → ClassId) (dI : Nat → Nat → Nat) (A : Nat → Prop) (h0 : Nat) (_ : Unit) (t : State) : Prop := ∃ (q1 : Nat) (c1 : ClassId), va_P (dC, dI) xCl [(h0, .inr (2, [.ref q1, .int 0])), (q1, .inl (c1, (512, .inl (fun _ => 0))))] t.heap ∧ va_K (dC, dI) xCl [(c1, .int)] t ∧ va_D A [(h0, .inr (2, [.ref q1, .int 0])), (q1, .inl (c1, (512, .inl (fun _ => 0))))]
abbrev y_B_init : MethodName := ⟨"NameMover$ByteRow", "<init>", "()V"⟩
abbrev ws_B_init : List Cond := Cond.code y_B_init prog_2_method_1_code 1 none :: xt2
set_option maxHeartbeats 1000000 in
set_option maxRecDepth 100000 in
theorem c_B_init (l : Launch) (dC : Nat → ClassId) (dI : Nat → Nat → Nat) (h0 sz : Nat) : Met l y_B_init ws_B_init ({ frames := 1, cells := 1, slots := 512, locals := 12 }) (va_Pc [.ref h0] (fun U => U.heap.size = sz ∧ va_P (dC, dI) xCl [(h0, .inr (2, [.null, .int 0]))] U.heap ∧ va_K (dC, dI) xCl [] U ∧ va_D (fun _ => True) [(h0, .inr (2, [.null, .int 0]))])) (va_Qv (fun _ : Unit => True) (at_B_init dC dI (va_A [(h0, .inr (2, [.null, .int 0]))] sz) h0) (va_A [(h0, .inr (2, [.null, .int 0]))] sz)) 1 512 (va_A [(h0, .inr (2, [.null, .int 0]))] sz) := by
  refine Met.ofW (cc := prog_2_method_1_code) (maxL := 1) (ret := none) (by decide) rfl ?_
  intro p e s m args below meth c s₁ B hml hv
  obtain ⟨rfl, hsz, hP, hK, hD0⟩ := hv
  have hx := B.exec
  have hb := B.bytes
  have hr := B.returns
  have hts := atoms_spec (ws := ws_B_init) B.pre
  have hown : s.vm.findClass "NameMover$ByteRow" = some m.cls := findClass_of_methodNamed B.named
  have hlocks := B.notSynchronized
  have hin : meth.name = "<init>" := (name_of_methodNamed B.named B.method).1
  subst hsz
  have hD := hD0.self (sz := s.heap.size)
  generalize hAe : va_A [(h0, .inr (2, [.null, .int 0]))] s.heap.size = A at hD ⊢
  have hA : ∀ q : Nat, s.heap.size ≤ q → A q := fun q h => by rw [← hAe]; exact Or.inr h
  have hS : va_S A s.heap s.heap [] := va_S.rf
  have hl := lv_entry ([.ref h0]) (n := 1) (Nat.le_of_ble_eq_true rfl)
  rw [lg_entry_eq]
  generalize (lg_sl ([.ref h0]) ++ List.replicate (1 - (lg_sl ([.ref h0])).length) Slot.unset).toArray = ls at hl ⊢
  have hl : lv_has ls 1 [(0, .ref h0)] := hl
  refine lv_aload_n hx hb (by decide +kernel : decode prog_2_method_1_code 0 = .ok (.aload_n 0, 1)) rfl (lv_at hl 0 rfl) ?_
  refine W.objInit hx hb hown (hts _ (tc2 tv_95)) (hts _ (tc2 tv_25)) (hts _ (tc2 tv_26)) rfl (by rw [hml]; exact hl.1) rfl (by decide +kernel : decode prog_2_method_1_code 1 = .ok (.invokespecial 1, 3)) (Nat.le_of_ble_eq_true rfl) (Nat.le_of_ble_eq_true rfl) ?_
  refine W.eq (g2 := F0 m 4 ls []) rfl ?_
  refine lv_aload_n hx hb (by decide +kernel : decode prog_2_method_1_code 4 = .ok (.aload_n 0, 1)) rfl (lv_at hl 0 rfl) ?_
  refine lv_sipush (v := 512) hx hb (by decide +kernel : decode prog_2_method_1_code 5 = .ok (.sipush 512, 3)) (by decide) ?_
  refine va_newa (D := (dC, dI)) (cl := xCl) (atype := .int) (N' := 512) (a0 := (512, .inl (fun _ => 0))) hx hb (hts _ (tc2 tv_88)) rfl hK hP hD hS hA (fun _ => rfl) (by decide) (by decide) (by decide) (by decide : 1 ≤ 1) (by decide : 512 ≤ 512) (by decide +kernel : decode prog_2_method_1_code 8 = .ok (.newarray .int, 2)) (fun q1 c1 H hK hP hD hS => ?_)
  have hP : va_P (dC, dI) xCl [(h0, .inr (2, [.null, .int 0])), (q1, .inl (c1, (512, .inl (fun _ => 0))))] H := hP
  have hD : va_D A [(h0, .inr (2, [.null, .int 0])), (q1, .inl (c1, (512, .inl (fun _ => 0))))] := hD
  have hK : va_K (dC, dI) xCl [(c1, .int)] s := hK
  refine W.widen (k := 1) (n := 512) (by omega) (by omega) ?_
  refine va_putF (D := (dC, dI)) (ci := 2) (v := .ref q1) (ty := .array .int) (C := RB) (T := FB) (N := 2) hx hb hts tin2_B tB tB_ok nB hown hK hP hD hS 0 rfl rfl 0 (by decide) (hts _ (tc2 tv_96)) (fun _ h9 => h9) rfl hin rfl (by decide +kernel) rfl rfl (Nat.le_of_ble_eq_true rfl) (by decide +kernel : decode prog_2_method_1_code 10 = .ok (.putfield 9, 3)) (fun H locs hP hD hS => ?_)
  have hP : va_P (dC, dI) xCl [(h0, .inr (2, [.ref q1, .int 0])), (q1, .inl (c1, (512, .inl (fun _ => 0))))] H := hP
  have hD : va_D A [(h0, .inr (2, [.ref q1, .int 0])), (q1, .inl (c1, (512, .inl (fun _ => 0))))] := hD
  refine lv_aload_n hx hb (by decide +kernel : decode prog_2_method_1_code 13 = .ok (.aload_n 0, 1)) rfl (lv_at hl 0 rfl) ?_
  refine lv_iconst (v := 0) hx hb (by decide +kernel : decode prog_2_method_1_code 14 = .ok (.iconst 0, 1)) (by decide) ?_
  refine va_put (D := (dC, dI)) (ci := 2) (v := .int 0) (ty := .int) (C := RB) (T := FB) (N := 2) hx hb hts tin2_B tB tB_ok nB hown hK hP hD hS 0 rfl rfl 1 (by decide) (hts _ (tc2 tv_97)) (fun _ h9 => h9) rfl (by decide +kernel) rfl rfl (Nat.le_of_ble_eq_true rfl) (by decide +kernel : decode prog_2_method_1_code 15 = .ok (.putfield 13, 3)) (fun H locs hP hD hS => ?_)
  have hP : va_P (dC, dI) xCl [(h0, .inr (2, [.ref q1, .int 0])), (q1, .inl (c1, (512, .inl (fun _ => 0))))] H := hP
  have hD : va_D A [(h0, .inr (2, [.ref q1, .int 0])), (q1, .inl (c1, (512, .inl (fun _ => 0))))] := hD
  exact W.vret hx hb hr (fun t ht hW => ⟨⟨(), rfl, trivial, q1, c1, by rw [ht]; exact hP, va_K.moved hW.alike hK, hD⟩, hS.F ht⟩) hS.2.2 (by decide +kernel : decode prog_2_method_1_code 18 = .ok (.return_, 1))
