-- THE LAW's OWN STEPS: the script, the switch, calls with room that is counted
section XJ
variable {k0 : Nat × Nat} {Ex : Code → State → (Nat → Nat) → (Nat → Prop) → Prop} {cl : List vw_C} {own : String} {Ts : List Cond} {cc : ByteArray} {nL : Nat} {ret : Option FieldType} {R : Room} {pc : Nat}
theorem xSd.imp {op op' : xOp} (h : xSd k0 Ex cl own Ts cc nL ret R (pc, op)) (hi : ∀ x J Q, op' x J Q → op x J Q) : xSd k0 Ex cl own Ts cc nL ret R (pc, op') :=
  fun p l e s m args below meth c D cA ρ A X Q J x hpc hJ ho => h p l e s m args below meth c D cA ρ A X Q J x hpc hJ (hi x J Q ho)
theorem s_callSW {hh : List (Nat × Nat × Nat × Nat)} {F : xP} {np rc rk i : Nat} {y : MethodName} {ws ws' : List Cond} {rm : Room} {bytes : ByteArray} {maxL : Nat} {rt : Option FieldType} (hM : xMet cl y ws rm F) (hd : decode cc pc = .ok (.invokestatic i, 3)) (hw : ws = Cond.codeWith y bytes maxL rt hh :: ws') (hG : xGood Ts ws)
    (hlink : Cond.methodLink own i y ∈ Ts) (hstat : Cond.static y ∈ Ts) (hini : Cond.initialized y.cls ∈ Ts) (hy : y.cls ≠ "java/lang/invoke/MethodHandle" ∧ y.cls ≠ "java/lang/invoke/VarHandle" ∧ (parseMethodDescriptor y.desc).map (fun d => d.parameters.length) = some np)
    (hrc : k0.1 + rc ≤ R.cells ∧ k0.2 + 6 * rc ≤ R.slots ∧ rm.cells = rk ∧ rm.slots = 6 * rk ∧ rm.frames + 1 ≤ R.frames ∧ 8 + (maxL + 11) + rm.locals ≤ R.locals) (hex : ∀ c s ρ A, Ex c s ρ A → c.exceptionTable.isEmpty = true) : xSd k0 Ex cl own Ts cc nL ret R (pc, o_call F np rc rk) := by
  intro p l e s m args below meth c D cA ρ A X Q J x hpc hJ ho H locs ls hl hP hD hS
  obtain ⟨pc', L, st, h, n⟩ := x
  obtain rfl : pc' = pc := hpc
  obtain ⟨h0, ho⟩ := bif_t ho
  rw [Bool.and_eq_true, Bool.and_eq_true] at h0
  dsimp only at h0 ho
  have hlen : (st.take np).length = np := by rw [List.length_take]; exact Nat.min_eq_left (Nat.le_of_ble_eq_true h0.1)
  intro T hT S
  subst hT
  have hts := X.2.2.2.2.2.2.1
  have hcw : Cond.codeWith y bytes maxL rt hh ∈ ws := by rw [hw]; exact List.mem_cons_self
  have hcode := hts _ (hG _ hcw).1
  obtain ⟨mk, methM, cM, hnamed, hmethM, hcM, -, hlM, -, -, -, hsigM⟩ := Cond.codeWith_spec hcode
  have hstatic : methM.isStatic = true := Cond.static_spec hnamed hmethM (hts _ hstat)
  obtain ⟨kP, hkP, -⟩ := className_of_methodNamed hnamed
  have hinitP : kP.init = .initialized := Cond.initialized_spec (findClass_of_methodNamed hnamed) hkP (hts _ hini)
  have hpl : ((st.take np).reverse.map (xv ρ)).length = methM.sig.parameters.length := by
    have h2 := hy.2.2
    rw [hsigM] at h2
    rw [List.length_map, List.length_reverse, hlen]
    exact (Option.some.inj h2).symm
  obtain ⟨vm₁, X₁, hstep₁⟩ := S.invokestatic X.1 X.2.2.2.2.2.1 (hts _ hlink) hnamed hmethM hstatic hkP hinitP ⟨hy.1, hy.2.1⟩ (g := F0 m pc' ls (st.map (xv ρ))) rfl (argsL := (st.take np).reverse.map (xv ρ)) (rest := (st.drop np).map (xv ρ)) hpl (by
    show st.map (xv ρ) = _
    rw [← List.map_reverse, ← List.map_append, take_app]) (by rw [X.2.1]; exact hd)
  obtain ⟨t, a1, b1⟩ := x_call (T := T.setVm vm₁) X hJ (pc := pc') (ls := ls) (rest := st.drop np) (vs := (st.take np).reverse) X₁ hl hP hD hS hd (X₁.named hnamed) hM ⟨methM, cM, by rw [X₁.warmed.alike.method?]; exact hmethM, hcM, hlM⟩ hG hini hex hrc.1 hrc.2.1 hrc.2.2.1 hrc.2.2.2.1 hrc.2.2.2.2.1 hrc.2.2.2.2.2 (Nat.le_of_ble_eq_true h0.2.1) (Nat.le_of_ble_eq_true h0.2.2) ho
  exact ⟨t, hstep₁ _ fun acts => by rw [doInvoke_state]; exact a1, b1⟩
def o_callP (F : xP) (np rc rk : Nat) : xOp := fun x k Q => x.2.2.2.2 + rk ≤ rc ∧ (bif Nat.ble np x.2.2.1.length && Nat.ble (xcs (x.2.2.1.drop np)) 8 then
    F (x.2.2.1.take np).reverse x.2.2.2.1 (fun r h' n' => match r with
      | .inl none => k (x.1 + 3, x.2.1, x.2.2.1.drop np, h', x.2.2.2.2 + n')
      | .inl (some v) => k (x.1 + 3, x.2.1, v :: x.2.2.1.drop np, h', x.2.2.2.2 + n')
      | .inr X => Q (.inr X) h' (x.2.2.2.2 + n')) else False)
theorem o_callP_i {F : xP} {np rc rk : Nat} (x : xF) (J : xF → Prop) (Q : xQ) (h : o_callP F np rc rk x J Q) : o_call F np rc rk x J Q := by
  obtain ⟨h1, h2⟩ := h
  obtain ⟨h3, h4⟩ := bif_t h2
  rw [Bool.and_eq_true] at h3
  unfold o_call
  rw [h3.1, h3.2, Nat.ble_eq_true_of_le h1]
  exact h4
def o_callVP (F : xP) (ci np rc rk : Nat) : xOp := fun x k Q => match (x.2.2.1.drop np) with
  | .ref a :: _ => match x.2.2.2.1[a]? with
    | some (.inr (cj, _)) => bif Nat.beq cj ci then o_callP F (np + 1) rc rk x k Q else False
    | _ => False
  | _ => False
theorem o_callVP_i {F : xP} {ci np rc rk : Nat} (x : xF) (J : xF → Prop) (Q : xQ) (h : o_callVP F ci np rc rk x J Q) : o_callV F ci np rc rk x J Q := by
  unfold o_callVP at h
  unfold o_callV
  split at h
  · split at h
    · obtain ⟨h1, h2⟩ := bif_t h
      rename_i a r hd _ cj fs he
      rw [hd]
      simp only []
      rw [he]
      simp only []
      rw [h1]
      exact o_callP_i _ _ _ h2
    · exact h.elim
  · exact h.elim
/-- the law's context: no handlers; the script is the cell b, of the number 99, and not ours to change -/
def xEl (b L : Nat) (xs : Nat → Int32) : Code → State → (Nat → Nat) → (Nat → Prop) → Prop := fun c s ρ A => c.exceptionTable.isEmpty = true ∧ ρ 99 = b ∧ ¬ A b ∧ b < s.heap.size ∧ va_X b L xs s s.heap
theorem xEl_e {b L : Nat} {xs : Nat → Int32} : ∀ c s ρ A, xEl b L xs c s ρ A → c.exceptionTable.isEmpty = true := fun _ _ _ _ h => h.1
def o_sload (L : Nat) (xs : Nat → Int32) : xOp := fun x k _ => match x.2.2.1 with
  | .int i :: .ref a :: r => bif Nat.beq a 99 then vp_in i L ∧ k (x.1 + 1, x.2.1, .int (xs i.toNatClampNeg) :: r, x.2.2.2.1, x.2.2.2.2) else False
  | _ => False
def o_slen (L : Nat) : xOp := fun x k _ => match x.2.2.1 with
  | .ref a :: r => bif Nat.beq a 99 then k (x.1 + 1, x.2.1, .int (Int32.ofNat L) :: r, x.2.2.2.1, x.2.2.2.2) else False
  | _ => False
def o_sw (d : Nat) (ts : List Nat) : xOp := fun x k _ => match x.2.2.1 with
  | .int i :: r => ∃ j : Nat, j < ts.length ∧ i = Int32.ofNat j ∧ k (ts.getD j d, x.2.1, r, x.2.2.2.1, x.2.2.2.2)
  | _ => False
end XJ
section XJ
variable {k0 : Nat × Nat} {b L : Nat} {xs : Nat → Int32} {cl : List vw_C} {own : String} {Ts : List Cond} {cc : ByteArray} {nL : Nat} {ret : Option FieldType} {R : Room} {pc : Nat}
theorem s_sload (hd : decode cc pc = .ok (.iaload, 1)) : xSd k0 (xEl b L xs) cl own Ts cc nL ret R (pc, o_sload L xs) := by
  intro p l e s m args below meth c D cA ρ A X Q J x hpc hJ ho H locs ls hl hP hD hS
  obtain ⟨pc', L, st, h, n⟩ := x
  obtain rfl : pc' = pc := hpc
  dsimp only [o_sload] at ho
  split at ho
  · rename_i i a r
    obtain ⟨h1, h2, h3⟩ := bif_t ho
    obtain rfl : a = 99 := Nat.eq_of_beq_eq_true h1
    obtain ⟨-, e1, e2, e3, e4⟩ := X.2.2.2.2.2.2.2.2.2.1
    show W p l e R s m args below meth c H locs _ _ _ (F0 m pc' ls (.int i :: .ref (ρ 99) :: r.map (xv ρ)))
    rw [e1]
    exact va_sld X.1 X.2.1 e4 e3 e2 hS h2 hd (hJ _ h3 H locs ls hl hP hD hS)
  · exact ho.elim
theorem s_slen (hd : decode cc pc = .ok (.arraylength, 1)) : xSd k0 (xEl b L xs) cl own Ts cc nL ret R (pc, o_slen L) := by
  intro p l e s m args below meth c D cA ρ A X Q J x hpc hJ ho H locs ls hl hP hD hS
  obtain ⟨pc', L, st, h, n⟩ := x
  obtain rfl : pc' = pc := hpc
  dsimp only [o_slen] at ho
  split at ho
  · rename_i a r
    obtain ⟨h1, h3⟩ := bif_t ho
    obtain rfl : a = 99 := Nat.eq_of_beq_eq_true h1
    obtain ⟨-, e1, e2, e3, e4⟩ := X.2.2.2.2.2.2.2.2.2.1
    show W p l e R s m args below meth c H locs _ _ _ (F0 m pc' ls (.ref (ρ 99) :: r.map (xv ρ)))
    rw [e1]
    exact va_slen X.1 X.2.1 e4 e3 e2 hS hd (hJ _ h3 H locs ls hl hP hD hS)
  · exact ho.elim
end XJ
section XJ
variable {k0 : Nat × Nat} {Ex : Code → State → (Nat → Nat) → (Nat → Prop) → Prop} {cl : List vw_C} {own : String} {Ts : List Cond} {cc : ByteArray} {nL : Nat} {ret : Option FieldType} {R : Room} {pc : Nat}
theorem s_sw {d hi : Nat} {df : Int} {ts : List Nat} {offs : Array Int} {len : Nat} (hd : decode cc pc = .ok (.tableswitch df 0 hi offs, len)) (hlen : ts.length = hi + 1) (hsm : hi < 1000) (ho2 : ∀ j : Nat, j < ts.length → ∃ o, offs[j]? = some o ∧ (pc : Int) + o = ((ts.getD j d : Nat) : Int)) : xSd k0 Ex cl own Ts cc nL ret R (pc, o_sw d ts) := by
  intro p l e s m args below meth c D cA ρ A X Q J x hpc hJ ho H locs ls hl hP hD hS
  obtain ⟨pc', L, st, h, n⟩ := x
  obtain rfl : pc' = pc := hpc
  dsimp only [o_sw] at ho
  split at ho
  · rename_i i r
    obtain ⟨j, hj, rfl, h3⟩ := ho
    obtain ⟨o, e1, e2⟩ := ho2 j hj
    have hI : (Int32.ofNat j).toInt = (j : Int) := nI_toInt (n := j) (by omega)
    exact lv_tableIn X.1 X.2.1 hd (by rw [hI]; omega) (by rw [hI]; omega) (by rw [hI]; simpa using e1) e2 (hJ _ h3 H locs ls hl hP hD hS)
  · exact ho.elim
end XJ
