section XF
variable {k0 : Nat × Nat} {Ex : Code → State → (Nat → Nat) → (Nat → Prop) → Prop} {cl : List vw_C} {own : String} {Ts : List Cond} {cc : ByteArray} {nL : Nat} {ret : Option FieldType} {R : Room} {pc : Nat}
def o_getf (ci f : Nat) : xOp := fun x k _ => match x.2.2.1 with
  | .ref a :: r => match x.2.2.2.1[a]? with
    | some (.inr (cj, fs)) => match fs[f]? with
      | some v => bif Nat.beq cj ci then k (x.1 + 3, x.2.1, v :: r, x.2.2.2.1, x.2.2.2.2) else False
      | none => False
    | _ => False
  | _ => False
def o_puti (ci f : Nat) : xOp := fun x k _ => match x.2.2.1 with
  | .int v :: .ref a :: r => match x.2.2.2.1[a]? with
    | some (.inr (cj, fs)) => bif Nat.beq cj ci && Nat.blt f fs.length then k (x.1 + 3, x.2.1, r, x.2.2.2.1.set a (.inr (cj, fs.set f (.int v))), x.2.2.2.2) else False
    | _ => False
  | _ => False

theorem s_getf {ci f i : Nat} {C : String} {T : u_T} {N : Nat} (hd : decode cc pc = .ok (.getfield i, 3)) (hc : cl[ci]? = some (C, T, N)) (hin : ∀ w ∈ u_ws C T N, w ∈ Ts) (hf : f < N) (hw : Cond.fieldLink own i (T f).1 (T f).2.1 (T f).2.2.1 ∈ Ts) : xSd k0 Ex cl own Ts cc nL ret R (pc, o_getf ci f) := by
  intro p l e s m args below meth c D cA ρ A X Q J x hpc hJ ho H locs ls hl hP hD hS
  obtain ⟨pc', L, st, h, n⟩ := x
  obtain rfl : pc' = pc := hpc
  dsimp only [o_getf] at ho
  split at ho
  · rename_i a r
    split at ho
    · rename_i cj fs he
      split at ho
      · rename_i v hfv
        obtain ⟨h1, h2⟩ := bif_t ho
        obtain rfl : cj = ci := Nat.eq_of_beq_eq_true h1
        exact va_get X.1 X.2.1 X.2.2.2.2.2.2.1 hin X.2.2.2.2.2.1 X.2.2.2.2.2.2.2.1 hP a (xw_at he) hc f hf (X.2.2.2.2.2.2.1 _ hw) (fun _ q => q) (v := xv ρ v) (by rw [List.getElem?_map, hfv]; rfl) hd (hJ _ h2 H locs ls hl hP hD hS)
      · exact ho.elim
    · exact ho.elim
  · exact ho.elim
theorem s_getfN {ci f i : Nat} {C : String} {T : u_T} {N : Nat} {host : String} (hd : decode cc pc = .ok (.getfield i, 3)) (hc : cl[ci]? = some (C, T, N)) (hin : ∀ w ∈ u_ws C T N, w ∈ Ts) (hf : f < N) (hw : Cond.fieldLinkNest own i (T f).1 (T f).2.1 (T f).2.2.1 host ∈ Ts) : xSd k0 Ex cl own Ts cc nL ret R (pc, o_getf ci f) := by
  intro p l e s m args below meth c D cA ρ A X Q J x hpc hJ ho H locs ls hl hP hD hS
  obtain ⟨pc', L, st, h, n⟩ := x
  obtain rfl : pc' = pc := hpc
  dsimp only [o_getf] at ho
  split at ho
  · rename_i a r
    split at ho
    · rename_i cj fs he
      split at ho
      · rename_i v hfv
        obtain ⟨h1, h2⟩ := bif_t ho
        obtain rfl : cj = ci := Nat.eq_of_beq_eq_true h1
        exact va_getN X.1 X.2.1 X.2.2.2.2.2.2.1 hin X.2.2.2.2.2.1 X.2.2.2.2.2.2.2.1 hP a (xw_at he) hc f hf (X.2.2.2.2.2.2.1 _ hw) (fun _ q => q) (v := xv ρ v) (by rw [List.getElem?_map, hfv]; rfl) hd (hJ _ h2 H locs ls hl hP hD hS)
      · exact ho.elim
    · exact ho.elim
  · exact ho.elim
theorem s_puti {ci f i : Nat} {C : String} {T : u_T} {N : Nat} (hd : decode cc pc = .ok (.putfield i, 3)) (hc : cl[ci]? = some (C, T, N)) (hin : ∀ w ∈ u_ws C T N, w ∈ Ts) (hf : f < N) (hw : Cond.fieldLink own i (T f).1 (T f).2.1 (T f).2.2.1 ∈ Ts) (ty0 : Nat → FieldType) (hty : ∀ k, k < N → parseFieldDescriptor (T k).2.2.1 = some (ty0 k)) (hnm : ∀ a, a < N → ∀ b, b < N → a ≠ b → (T a).2.1 ≠ (T b).2.1) (hfin : (T f).2.2.2 = false) (hde : parseFieldDescriptor (T f).2.2.1 = some .int) : xSd k0 Ex cl own Ts cc nL ret R (pc, o_puti ci f) := by
  intro p l e s m args below meth c D cA ρ A X Q J x hpc hJ ho H locs ls hl hP hD hS
  obtain ⟨pc', L, st, h, n⟩ := x
  obtain rfl : pc' = pc := hpc
  dsimp only [o_puti] at ho
  split at ho
  · rename_i v a r
    split at ho
    · rename_i cj fs he
      obtain ⟨h1, h2⟩ := bif_t ho
      rw [Bool.and_eq_true] at h1
      obtain rfl : cj = ci := Nat.eq_of_beq_eq_true h1.1
      have hlt : f < fs.length := Nat.le_of_ble_eq_true h1.2
      refine va_put X.1 X.2.1 X.2.2.2.2.2.2.1 hin ty0 hty hnm X.2.2.2.2.2.1 X.2.2.2.2.2.2.2.1 hP hD hS a (xw_at he) hc f hf (X.2.2.2.2.2.2.1 _ hw) (fun _ q => q) hfin (v := .int v) hde rfl rfl (by rw [List.length_map]; exact hlt) hd (fun H1 locs1 hP1 hD1 hS1 => ?_)
      have e := xw_set0 (ρ := ρ) (cA := cA) h a (.inr (cj, fs.set f (.int v)))
      have e2 : xe ρ cA (.inr (cj, fs.set f (.int v))) = .inr (cj, (fs.map (xv ρ)).set f (.int v)) := by
        show Sum.inr (cj, (fs.set f (.int v)).map (xv ρ)) = _
        rw [List.map_set]; rfl
      rw [e2] at e
      exact hJ _ h2 H1 locs1 ls hl (by rw [← e]; exact hP1) (by rw [← e]; exact hD1) hS1
    · exact ho.elim
  · exact ho.elim
theorem s_putiN {ci f i : Nat} {C : String} {T : u_T} {N : Nat} {host : String} (hd : decode cc pc = .ok (.putfield i, 3)) (hc : cl[ci]? = some (C, T, N)) (hin : ∀ w ∈ u_ws C T N, w ∈ Ts) (hf : f < N) (hw : Cond.fieldLinkNest own i (T f).1 (T f).2.1 (T f).2.2.1 host ∈ Ts) (ty0 : Nat → FieldType) (hty : ∀ k, k < N → parseFieldDescriptor (T k).2.2.1 = some (ty0 k)) (hnm : ∀ a, a < N → ∀ b, b < N → a ≠ b → (T a).2.1 ≠ (T b).2.1) (hfin : (T f).2.2.2 = false) (hde : parseFieldDescriptor (T f).2.2.1 = some .int) : xSd k0 Ex cl own Ts cc nL ret R (pc, o_puti ci f) := by
  intro p l e s m args below meth c D cA ρ A X Q J x hpc hJ ho H locs ls hl hP hD hS
  obtain ⟨pc', L, st, h, n⟩ := x
  obtain rfl : pc' = pc := hpc
  dsimp only [o_puti] at ho
  split at ho
  · rename_i v a r
    split at ho
    · rename_i cj fs he
      obtain ⟨h1, h2⟩ := bif_t ho
      rw [Bool.and_eq_true] at h1
      obtain rfl : cj = ci := Nat.eq_of_beq_eq_true h1.1
      have hlt : f < fs.length := Nat.le_of_ble_eq_true h1.2
      refine va_putN X.1 X.2.1 X.2.2.2.2.2.2.1 hin ty0 hty hnm X.2.2.2.2.2.1 X.2.2.2.2.2.2.2.1 hP hD hS a (xw_at he) hc f hf (X.2.2.2.2.2.2.1 _ hw) (fun _ q => q) hfin (v := .int v) hde rfl rfl (by rw [List.length_map]; exact hlt) hd (fun H1 locs1 hP1 hD1 hS1 => ?_)
      have e := xw_set0 (ρ := ρ) (cA := cA) h a (.inr (cj, fs.set f (.int v)))
      have e2 : xe ρ cA (.inr (cj, fs.set f (.int v))) = .inr (cj, (fs.map (xv ρ)).set f (.int v)) := by
        show Sum.inr (cj, (fs.set f (.int v)).map (xv ρ)) = _
        rw [List.map_set]; rfl
      rw [e2] at e
      exact hJ _ h2 H1 locs1 ls hl (by rw [← e]; exact hP1) (by rw [← e]; exact hD1) hS1
    · exact ho.elim
  · exact ho.elim
end XF
section XR
variable {p : Program} {l : Launch} {e : Env} {R : Room} {s : State} {m : MethodId} {args : Array Value} {below : List Frame} {meth : Method} {c : Code} {H : Heap} {locs : List Loc} {cells slots : Nat}
theorem W.mono {Q Q' : State → Prop} {g : JFrame} (k : W p l e R s m args below meth c H locs cells slots Q g) (h : ∀ t, Q t → Q' t) : W p l e R s m args below meth c H locs cells slots Q' g := fun T hT X => by
  obtain ⟨t, a, b⟩ := k T hT X
  exact ⟨t, a, h t b⟩
theorem xret {k0 : Nat × Nat} {cl : List vw_C} {D : va_G} {cA : Nat → ClassId} {ρ : Nat → Nat} {A : Nat → Prop} {Q : xQ} {v : Option Value} {h : xH} {n : Nat} (hQ : Q (.inl v) h n) (hP : va_P D cl (xw ρ cA 0 h) H) (hD : va_D A (xw ρ cA 0 h)) (hS : va_S A s.heap H locs) {t : State}
    (hq : MQ below (fun _ _ o t => o = .returned (v.map (xv ρ)) ∧ t.heap = H ∧ s.WarmedH t.vm) args s (k0.1 + n) (k0.2 + 6 * n) A t) : xMQ k0 cl D cA ρ A Q s below t := by
  obtain ⟨o, h1, h2, ⟨h3, h4, h5⟩, L, ⟨-, -, h6⟩, h7⟩ := hq
  refine ⟨o, h1, h2, .inl v, h, n, hQ, ?_, by rw [h4]; exact hP, hD, hS.F h4, h5, L, h6, h7⟩
  cases v with
  | none => exact h3
  | some w => exact h3
end XR
section XV
variable {k0 : Nat × Nat} {Ex : Code → State → (Nat → Nat) → (Nat → Prop) → Prop} {cl : List vw_C} {own : String} {Ts : List Cond} {cc : ByteArray} {nL : Nat} {ret : Option FieldType} {R : Room} {pc : Nat}
def o_iret : xOp := fun x _ Q => match x.2.2.1 with
  | [.int v] => Q (.inl (some (.int v))) x.2.2.2.1 x.2.2.2.2
  | _ => False
def o_zret : xOp := fun x _ Q => match x.2.2.1 with
  | [.int v] => (v = 0 ∨ v = 1) ∧ Q (.inl (some (.int v))) x.2.2.2.1 x.2.2.2.2
  | _ => False
def o_lret : xOp := fun x _ Q => match x.2.2.1 with
  | [.long v] => Q (.inl (some (.long v))) x.2.2.2.1 x.2.2.2.2
  | _ => False
def o_vret : xOp := fun x _ Q => match x.2.2.1 with
  | [] => Q (.inl none) x.2.2.2.1 x.2.2.2.2
  | _ => False
theorem s_iret (hd : decode cc pc = .ok (.ireturn, 1)) : xSd k0 Ex cl own Ts cc nL (some .int) R (pc, o_iret) := by
  intro p l e s m args below meth c D cA ρ A X Q J x hpc hJ ho H locs ls hl hP hD hS
  obtain ⟨pc', L, st, h, n⟩ := x
  obtain rfl : pc' = pc := hpc
  dsimp only [o_iret] at ho
  split at ho
  · rename_i v
    have hlocks := X.2.2.2.2.1
    exact W.mono (W.iret (v := v) (free := A) X.1 X.2.1 X.2.2.2.1 (fun t ht hW => ⟨rfl, ht, hW⟩) hS.2.2 hd) (fun t ht => xret (v := some (.int v)) ho hP hD hS ht)
  · exact ho.elim
theorem s_zret (hd : decode cc pc = .ok (.ireturn, 1)) : xSd k0 Ex cl own Ts cc nL (some .boolean) R (pc, o_zret) := by
  intro p l e s m args below meth c D cA ρ A X Q J x hpc hJ ho H locs ls hl hP hD hS
  obtain ⟨pc', L, st, h, n⟩ := x
  obtain rfl : pc' = pc := hpc
  dsimp only [o_zret] at ho
  split at ho
  · rename_i v
    have hlocks := X.2.2.2.2.1
    have hn : narrow .boolean (.int v) = .int v := by
      rcases ho.1 with q | q <;> subst q <;> decide
    exact W.mono (W.zret (v := v) (free := A) X.1 X.2.1 X.2.2.2.1 hn (fun t ht hW => ⟨rfl, ht, hW⟩) hS.2.2 hd) (fun t ht => xret (v := some (.int v)) ho.2 hP hD hS ht)
  · exact ho.elim
theorem s_lret (hd : decode cc pc = .ok (.lreturn, 1)) : xSd k0 Ex cl own Ts cc nL (some .long) R (pc, o_lret) := by
  intro p l e s m args below meth c D cA ρ A X Q J x hpc hJ ho H locs ls hl hP hD hS
  obtain ⟨pc', L, st, h, n⟩ := x
  obtain rfl : pc' = pc := hpc
  dsimp only [o_lret] at ho
  split at ho
  · rename_i v
    have hlocks := X.2.2.2.2.1
    exact W.mono (W.lret (v := v) (free := A) X.1 X.2.1 X.2.2.2.1 (fun t ht hW => ⟨rfl, ht, hW⟩) hS.2.2 hd) (fun t ht => xret (v := some (.long v)) ho hP hD hS ht)
  · exact ho.elim
theorem s_vret (hd : decode cc pc = .ok (.return_, 1)) : xSd k0 Ex cl own Ts cc nL none R (pc, o_vret) := by
  intro p l e s m args below meth c D cA ρ A X Q J x hpc hJ ho H locs ls hl hP hD hS
  obtain ⟨pc', L, st, h, n⟩ := x
  obtain rfl : pc' = pc := hpc
  dsimp only [o_vret] at ho
  split at ho
  · have hlocks := X.2.2.2.2.1
    exact W.mono (W.vret (free := A) X.1 X.2.1 X.2.2.2.1 (fun t ht hW => ⟨rfl, ht, hW⟩) hS.2.2 hd) (fun t ht => xret (v := none) ho hP hD hS ht)
  · exact ho.elim
end XV
/-- how a method's frame begins -/
def xen : List Value → xL
  | [] => []
  | v :: t => bif Nat.beq v.category 2 then some v :: none :: xen t else some v :: xen t
def xA (ρ : Nat → Nat) (k sz : Nat) : Nat → Prop := fun q => (∃ i, i < k ∧ q = ρ i) ∨ sz ≤ q
def xPre (cl : List vw_C) (D : va_G) (cA : Nat → ClassId) (ρ : Nat → Nat) (vs : List Value) (h : xH) (sz : Nat) : Array Value → State → Prop := fun a U => a = (vs.map (xv ρ)).toArray ∧ U.heap.size = sz ∧ va_P D cl (xw ρ cA 0 h) U.heap ∧ va_K D cl (xty cA) U ∧ va_D (fun _ => True) (xw ρ cA 0 h) ∧ xHs U
/-- a method's contract: what its meaning F promises, the machine does -/
def xMet (cl : List vw_C) (y : MethodName) (ws : List Cond) (rm : Room) (F : xP) : Prop := ∀ (l : Launch) (D : va_G) (cA : Nat → ClassId) (ρ : Nat → Nat) (vs : List Value) (h : xH) (Q : xQ) (sz : Nat), xLo l → F vs h Q →
  MetFree l y (headSpec ws rm) (xPre cl D cA ρ vs h sz) (fun _ _ _ _ _ => True) (fun _ st o t => xEnd (0, 0) cl D cA ρ (xA ρ h.length sz) Q st o t)
def xRun (tb : xT) (nL : Nat) : xP := fun vs h Q => (xen vs).length ≤ nL ∧ xG tb Q (0, xen vs ++ List.replicate (nL - (xen vs).length) none, [], h, 0)
theorem xMet.weak {cl : List vw_C} {y : MethodName} {ws : List Cond} {rm : Room} {F F' : xP} (h : xMet cl y ws rm F) (hF : ∀ vs h Q, F' vs h Q → F vs h Q) : xMet cl y ws rm F' := fun l D cA ρ vs hh Q sz hlo q => h l D cA ρ vs hh Q sz hlo (hF vs hh Q q)
theorem xla_none (ρ : Nat → Nat) : ∀ (k i : Nat), xla ρ i (List.replicate k none) = []
  | 0, i => rfl
  | k + 1, i => by rw [List.replicate_succ]; exact xla_none ρ k (i + 1)
theorem xen_la (ρ : Nat → Nat) (k : Nat) : ∀ (vs : List Value) (i : Nat), xla ρ i (xen vs ++ List.replicate k none) = lv_args i (vs.map (xv ρ))
  | [], i => xla_none ρ k i
  | v :: t, i => by
    unfold xen
    simp only [List.map_cons, lv_args, xv_cat]
    cases hb : Nat.beq v.category 2 with
    | true =>
      have : v.category = 2 := Nat.eq_of_beq_eq_true hb
      rw [if_pos this, ← xen_la ρ k t (i + 2)]
      rfl
    | false =>
      rw [if_neg (beq_f hb), ← xen_la ρ k t (i + 1)]
      rfl
theorem xen_len (ρ : Nat → Nat) : ∀ (vs : List Value), (lg_sl (vs.map (xv ρ))).length = (xen vs).length
  | [] => rfl
  | v :: t => by
    have ih := xen_len ρ t
    unfold lg_sl at ih ⊢
    unfold xen
    simp only [List.map_cons, List.flatMap_cons, List.length_append, xv_cat, ih]
    cases hb : Nat.beq v.category 2 with
    | true =>
      have : v.category = 2 := Nat.eq_of_beq_eq_true hb
      rw [if_pos this]
      simp
      omega
    | false =>
      rw [if_neg (beq_f hb)]
      simp
      omega
theorem xw_len (ρ : Nat → Nat) (cA : Nat → ClassId) : ∀ (h : xH) (i : Nat), (xw ρ cA i h).length = h.length
  | [], i => rfl
  | c :: t, i => by simp [xw, xw_len ρ cA t (i + 1)]
theorem xD_A {ρ : Nat → Nat} {cA : Nat → ClassId} {h : xH} {A : Nat → Prop} {sz : Nat} (hD : va_D A (xw ρ cA 0 h)) : va_D (xA ρ h.length sz) (xw ρ cA 0 h) :=
  hD.weaken fun k q hk _ => by
    rw [xw_get] at hk
    cases hh : h[k]? with
    | none => rw [hh] at hk; cases hk
    | some c =>
      rw [hh] at hk
      simp only [Option.map_some, Option.some.injEq, Nat.zero_add] at hk
      exact Or.inl ⟨k, (List.getElem?_eq_some_iff.mp hh).1, by rw [← hk]⟩
theorem xA_sub {ρ : Nat → Nat} {cA : Nat → ClassId} {h : xH} {A : Nat → Prop} {sz sz0 : Nat} (hD : va_D A (xw ρ cA 0 h)) (hA : ∀ q, sz0 ≤ q → A q) (hs : sz0 ≤ sz) : ∀ q, xA ρ h.length sz q → A q := fun q hq => by
  rcases hq with ⟨i, hi, rfl⟩ | hq
  · have hg : h[i]? = some h[i] := List.getElem?_eq_getElem hi
    exact hD.2 i _ (xw_at hg)
  · exact hA q (Nat.le_trans hs hq)
theorem x_ns {cl : List vw_C} {D : va_G} {cA : Nat → ClassId} {ρ : Nat → Nat} {h : xH} {H : Heap} (hP : va_P D cl (xw ρ cA 0 h) H) : ∀ q, xA ρ h.length H.size q → ∀ cell : Cell, H[q]? = some cell → cell.vm.isStatics = false := by
  intro q hq cell hc
  rcases hq with ⟨i, hi, rfl⟩ | hq
  · have hg : h[i]? = some h[i] := List.getElem?_eq_getElem hi
    have h1 := hP i _ (xw_at hg)
    generalize h[i] = w at h1
    rcases w with a | o
    · have h2 : H[ρ i]? = some (vp_cell (cA a.1) a.2) := h1
      rw [h2] at hc
      have h3 : vp_cell (cA a.1) a.2 = cell := Option.some.inj hc
      rw [← h3]
      obtain ⟨t, n, f | f | f | f | f⟩ := a <;> rfl
    · obtain ⟨r, -, c2, w1, w2, w3, -⟩ := h1
      rw [w1] at hc
      have h3 : c2 = cell := Option.some.inj hc
      rw [← h3, w3]
      rfl
  · have : H[q]? = none := by simp [hq]
    rw [this] at hc
    cases hc
theorem xMet.of {cl : List vw_C} {y : MethodName} {ws ws' : List Cond} {rm : Room} {cc : ByteArray} {nL : Nat} {ret : Option FieldType} {tb : xT} (hy : plainName y.cls = true) (hw : ws = Cond.code y cc nL ret :: ws') (hv : ∀ q ∈ tb, xSd (0, 0) x0 cl y.cls ws cc nL ret rm q) : xMet cl y ws rm (xRun tb nL) := by
  intro l D cA ρ vs h Q sz hlo hF
  refine MetFree.of_bodyS (code := cc) (maxLocals := nL) (ret := ret) hy ?_ ?_
  · intro args s m hh hn
    obtain ⟨meth, c, h1, h2, h3, h4, h5, h6, -, -⟩ := Cond.code_spec hn (atoms_spec (ws := ws) hh _ (by rw [hw]; exact List.mem_cons_self))
    exact ⟨meth, c, h1, h2, h3, h4, h5, h6⟩
  · intro p e s m args below meth c s₁ B hml hP _
    obtain ⟨rfl, hsz, hP, hK, hD0, hHs⟩ := hP
    subst hsz
    have hh0 : s₁.heap = s.heap := by rw [B.state]; rfl
    have hts := atoms_spec (ws := ws) B.pre
    have hcw : Cond.code y cc nL ret ∈ ws := by rw [hw]; exact List.mem_cons_self
    have hX : xCx x0 cl y.cls ws cc nL ret p l s m (vs.map (xv ρ)).toArray meth c D cA ρ (xA ρ h.length s.heap.size) :=
      ⟨B.exec, B.bytes, hml, B.returns, B.notSynchronized, findClass_of_methodNamed B.named, hts, hK, fun q hq => Or.inr hq, B.noHandlers (hts _ hcw), hlo, x_ns hP, hHs⟩
    have hl := lv_entry (vs.map (xv ρ)) (n := nL) (by rw [xen_len]; exact hF.1)
    have hk := xSd.all (l := l) (e := e) (below := below) (ρ := ρ) hv hX hF.2 s.heap [] _ (by rw [xen_la]; exact hl) hP (xD_A hD0) va_S.rf
    obtain ⟨t, a1, o, b1, b2, b3⟩ := hk s₁ hh0 (Stand.of_body B)
    exact ⟨t, o, by rw [lg_entry_eq]; exact a1, b1, b2, b3⟩

section XK
variable {p : Program} {l : Launch} {e : Env} {R : Room} {s : State} {m : MethodId} {args : Array Value} {below : List Frame} {meth : Method} {c : Code} {T : State} {locs : List Loc} {cells slots : Nat}
/-- a callee is entered and has ended, whatever way -/
theorem x_in (X : Stand p l e R s m args below meth c T locs cells slots) {g : JFrame} (hg : g.method = m) (hsize : g.locals.size = c.maxLocals) {ig : Instr} {len : Nat} (hdg : decode c.code g.pc = .ok (ig, len)) {y : MethodName} {mk : MethodId} (hn : T.methodNamed? y = some mk)
    {ws : List Cond} {rm : Room} {Pf : Array Value → State → Prop} {Qf : Array Value → State → Outcome → State → Prop} (hM : MetFree l y (headSpec ws rm) Pf (fun _ _ _ _ _ => True) Qf) {a : Array Value} {maxL : Nat}
    (hws : ∀ w ∈ ws, w.before a T = true) (hcY : ∃ methY cY, T.vm.method? mk = some methY ∧ methY.code = some cY ∧ cY.maxLocals = maxL) (hini : (Cond.initialized y.cls).before a T = true)
    (hfr : rm.frames + 1 ≤ R.frames) (hlo : 2 * g.monitorRoom + (g.stack.map fun v => v.category).sum + (maxL + 11) + rm.locals ≤ R.locals) (hce : cells + rm.cells ≤ R.cells) (hsl : slots + rm.slots ≤ R.slots) (hP : Pf a (T.calling g mk a)) :
    ∃ o s₂, Steps p.tables e below (doInvoke e (T.setTop g) [] mk a).1 s₂ ∧ s₂.status = .running ∧ Ended s₂ (.java g :: below) o ∧ Qf a (T.calling g mk a) o s₂ := by
  obtain ⟨methY, cY, hmY, hcY, hlY⟩ := hcY
  obtain ⟨kY, hkY, -⟩ := className_of_methodNamed hn
  have hinitY : kY.init = .initialized := Cond.initialized_spec (findClass_of_methodNamed hn) hkY hini
  have h : At T g.method c below := by rw [hg]; exact X.here
  have happ : (headSpec ws rm).appliesLoose y e.platform (T.calling g mk a) = true :=
    Spec.appliesLoose_calling (g := g) h hdg hn hkY hinitY (X.room_calling (g := g) (R' := rm) hsize hmY hcY hfr (by rw [hlY]; exact hlo) hce hsl) (atoms_intro hws)
  obtain ⟨mid, hmid⟩ := h.above
  have hfr2 : (T.setTop g).frames = (.java g :: mid) ++ below := by rw [State.frames_setTop' g h.top, hmid]; rfl
  obtain ⟨o, s₂, hsteps, hrun, hend, hq⟩ := Steps.callFree hM p X.admits X.cas X.clock (acts := []) hfr2 happ hP trivial
  rw [State.frames_setTop' g h.top, X.tail] at hend
  exact ⟨o, s₂, hsteps, hrun, hend, hq⟩
end XK

