def xnw : Cond → Bool
  | .fieldLinkNest .. => true
  | .methodLinkNest .. => true
  | .declares _ => true
  | .castable .. => true
  | .stringRef .. => true
  | _ => false
def xgw (w : Cond) : Prop := ((w.onTables && w.keeps) = true ∨ ∃ ty, w = .arrayClass ty) ∨ xnw w = true
theorem xgw_at {w : Cond} {args a' : Array Value} {s U : State} (hW : s.WarmedH U.vm) (hg : xgw w) (h : w.before args s = true) : w.before a' U = true := by
  rcases hg with hg | hg
  · exact word_at hW hg h
  · cases w with
    | fieldLinkNest a i b n d hh => exact va_Nw.use rfl (va_Nw.warmF hW (va_Nw.of rfl h))
    | methodLinkNest a i x hh => exact va_Nw.use rfl (va_Nw.warmM hW (va_Nw.of rfl h))
    | declares x => exact va_tabs rfl (rfl : (s.setVm U.vm).vm = U.vm) (Cond.before_shiftedFace (args := args) (State.Shifted.of_warmed hW) (Cond.declares x) rfl h)
    | castable x y => exact va_tabs rfl (rfl : (s.setVm U.vm).vm = U.vm) (Cond.before_shiftedFace (args := args) (State.Shifted.of_warmed hW) (Cond.castable x y) rfl h)
    | stringRef x y z =>
      have h1 := Cond.stringRef_warmed hW h
      simp only [Cond.before, Cond.holds, Cond.value, State.names, State.poolOf?, State.resolvedAt?, State.vm_setVm] at h1 ⊢
      exact h1
    | _ => cases hg
/-- the words of a callee are among the caller's, and stay true -/
def xGood (big ws : List Cond) : Prop := ∀ w ∈ ws, w ∈ big ∧ xgw w
/-- a call: F is the callee's meaning, np its arguments (with the receiver), rc and rk the rooms -/
def o_call (F : xP) (np rc rk : Nat) : xOp := fun x k Q => bif Nat.ble np x.2.2.1.length && (Nat.ble (xcs (x.2.2.1.drop np)) 8 && Nat.ble (x.2.2.2.2 + rk) rc) then
    F (x.2.2.1.take np).reverse x.2.2.2.1 (fun r h' n' => match r with
      | .inl none => k (x.1 + 3, x.2.1, x.2.2.1.drop np, h', x.2.2.2.2 + n')
      | .inl (some v) => k (x.1 + 3, x.2.1, v :: x.2.2.1.drop np, h', x.2.2.2.2 + n')
      | .inr X => Q (.inr X) h' (x.2.2.2.2 + n')) else False
section XK
variable {k0 : Nat × Nat} {Ex : Code → State → (Nat → Nat) → (Nat → Prop) → Prop} {cl : List vw_C} {p : Program} {l : Launch} {e : Env} {R : Room} {s : State} {m : MethodId} {args : Array Value} {below : List Frame} {meth : Method} {c : Code} {T : State} {locs : List Loc} {own : String} {Ts : List Cond} {cc : ByteArray} {nL : Nat} {ret : Option FieldType} {D : va_G} {cA : Nat → ClassId} {ρ : Nat → Nat} {A : Nat → Prop}
theorem x_callG (hX : xCx Ex cl own Ts cc nL ret p l s m args meth c D cA ρ A) {Q : xQ} {J : xF → Prop} (hJ : ∀ y, J y → xWW k0 cl R nL p l e s m args below meth c D cA ρ A Q y)
    {PT : Nat → xH → Nat → Prop} {pc n : Nat} {L : xL} {h : xH} {ls : Array Slot} {rest vs : List Value} (X : Stand p l e R s m args below meth c T locs (k0.1 + n) (k0.2 + 6 * n))
    (hl : lv_has ls nL (xla ρ 0 L)) (hP : va_P D cl (xw ρ cA 0 h) T.heap) (hD : va_D A (xw ρ cA 0 h)) (hS : va_S A s.heap T.heap locs) {ig : Instr} (hdg : decode cc pc = .ok (ig, 3))
    {y : MethodName} {mk : MethodId} (hn : T.methodNamed? y = some mk) {ws : List Cond} {rm : Room} {F : xP} (hM : xMet cl y ws rm F) {maxL : Nat} (hcY : ∃ methY cY, T.vm.method? mk = some methY ∧ methY.code = some cY ∧ cY.maxLocals = maxL) (hG : xGood Ts ws)
    (hini : Cond.initialized y.cls ∈ Ts) {rc rk : Nat} (hrc : k0.1 + rc ≤ R.cells) (hrs : k0.2 + 6 * rc ≤ R.slots) (hkc : rm.cells = rk) (hks : rm.slots = 6 * rk) (hfr : rm.frames + 1 ≤ R.frames) (hlo : 8 + (maxL + 11) + rm.locals ≤ R.locals)
    (hst : xcs rest ≤ 8) (hro : n + rk ≤ rc)
    (hF : F vs h (fun r h' n' => match r with
      | .inl none => J (pc + 3, L, rest, h', n + n')
      | .inl (some v) => J (pc + 3, L, v :: rest, h', n + n')
      | .inr Z => PT Z h' n'))
    (hPT : ∀ (Z : Nat) (h' : xH) (n' : Nat) (T' : State) (locs' : List Loc) (a : Nat) (cell : Cell), PT Z h' n' → Stand p l e R s m args below meth c T' locs' (k0.1 + (n + n')) (k0.2 + 6 * (n + n')) → va_P D cl (xw ρ cA 0 h') T'.heap → va_D A (xw ρ cA 0 h') → va_S A s.heap T'.heap locs' → T'.heap[a]? = some cell → (∀ k, cell.vm ≠ .statics k) → s.vm.findClass (xEx Z) = some cell.cls → (∃ k, s.vm.classes[cell.cls]? = some k) →
      ∃ t, Steps p.tables e below ((T'.setTop (F0 m pc ls (rest.map (xv ρ)))).pushFrame (.throwing a)) t ∧ xMQ k0 cl D cA ρ A Q s below t) :
    ∃ t, Steps p.tables e below (doInvoke e (T.setTop (F0 m pc ls (rest.map (xv ρ)))) [] mk (vs.map (xv ρ)).toArray).1 t ∧ xMQ k0 cl D cA ρ A Q s below t := by
  obtain ⟨hx, hb, hml, hr, hlk, hown, hts, hK, hA, hex0, hlo0, hns, hHs⟩ := hX
  have hwT : ∀ w ∈ ws, w.before (vs.map (xv ρ)).toArray T = true := fun w hw => xgw_at X.warmed (hG w hw).2 (hts w (hG w hw).1)
  have hdg' : decode c.code (F0 m pc ls (rest.map (xv ρ))).pc = .ok (ig, 3) := by rw [hb]; exact hdg
  obtain ⟨o, s₂, hsteps, hrun, hend, r, h', n', hq, hO, hP', hD', hF', hW', LL, hsame, hLL⟩ := x_in X (g := F0 m pc ls (rest.map (xv ρ))) rfl (by rw [hml]; exact hl.1) hdg' hn (hM l D cA ρ vs h _ T.heap.size hlo0 hF) (a := (vs.map (xv ρ)).toArray) hwT hcY
    (word_at X.warmed (Or.inl (by first | rfl | simp [Cond.onTables, Cond.keeps, Cond.steady])) (hts _ hini)) hfr (by
      show 2 * 0 + ((rest.map (xv ρ)).map fun v => v.category).sum + (maxL + 11) + rm.locals ≤ R.locals
      rw [xcs_map]; omega) (by rw [hkc]; omega) (by rw [hks]; omega)
    ⟨rfl, rfl, hP, va_K.moved X.warmed.alike hK, hD.weaken (fun _ _ _ _ => trivial), xHs.kept (U := T.calling (F0 m pc ls (rest.map (xv ρ))) mk (vs.map (xv ρ)).toArray) X.warmed.alike (x_stat hS hns) hHs⟩
  have hsub := xA_sub (h := h) (sz := T.heap.size) hD hA (show s.heap.size ≤ T.heap.size from hS.1)
  have hS' : va_S A s.heap s₂.heap (locs ++ LL) := by
    refine ⟨Nat.le_trans hS.1 hF'.1, fun q h1 h2 => ?_, fun q hq => ?_⟩
    · rw [hF'.2 q (Nat.lt_of_lt_of_le h1 hS.1) (fun z => h2 (hsub q z))]
      exact hS.2.1 q h1 h2
    · rcases List.mem_append.mp hq with hq | hq
      · exact hS.2.2 q hq
      · exact hsub _ (hLL q hq)
  have hDA : va_D A (xw ρ cA 0 h') := hD'.weaken fun k q _ z => hsub _ z
  have hcells : k0.2 + 6 * n + (0 + 6 * n') = k0.2 + 6 * (n + n') := by omega
  have hcells1 : k0.1 + n + (0 + n') = k0.1 + (n + n') := by omega
  rcases r with v | Z
  · obtain ⟨v', hv', hk⟩ : ∃ v' : Option Value, o = .returned v' ∧ xWW k0 cl R nL p l e s m args below meth c D cA ρ A Q (pc + 3, L, v.toList ++ rest, h', n + n') ∧ v' = v.map (xv ρ) := by
      cases v with
      | none => exact ⟨none, hO, hJ _ hq, rfl⟩
      | some w => exact ⟨some (xv ρ w), hO, hJ _ hq, rfl⟩
    subst hv'
    obtain ⟨T', X', -, -, ht⟩ := X.outOf (g := F0 m pc ls (rest.map (xv ρ))) rfl hdg' hend hW' hsame
    have hh : T'.heap = s₂.heap := by rw [ht]; rfl
    rw [hcells, hcells1] at X'
    obtain ⟨t, a1, b1⟩ := hk.1 T'.heap (locs ++ LL) ls hl (by rw [hh]; exact hP') hDA (by rw [hh]; exact hS') T' rfl X'
    refine ⟨t, hsteps.trans ?_, b1⟩
    rw [ht, hk.2]
    have e : (v.toList ++ rest).map (xv ρ) = (v.map (xv ρ)).toList ++ rest.map (xv ρ) := by cases v <;> simp
    rw [e] at a1
    exact a1
  · obtain ⟨a, cell, rfl, ha, hv, hc1, kc, hc2⟩ := hO
    obtain ⟨T', X', -, -, ht⟩ := X.outOfThrown (g := F0 m pc ls (rest.map (xv ρ))) rfl hend hW' hsame
    have hh : T'.heap = s₂.heap := by rw [ht]; rfl
    rw [hcells, hcells1] at X'
    obtain ⟨k', hk', -⟩ := (X.warmed.alike).symm.2.2 _ _ hc2
    obtain ⟨t, a1, b1⟩ := hPT Z h' n' T' (locs ++ LL) a cell hq X' (by rw [hh]; exact hP') hDA (by rw [hh]; exact hS') (by rw [hh]; exact ha) hv (by
      have := X.warmed.alike.findClass (xEx Z)
      rw [← this]
      exact hc1) ⟨k', hk'⟩
    exact ⟨t, hsteps.trans (by rw [ht]; exact a1), b1⟩
theorem x_call (hX : xCx Ex cl own Ts cc nL ret p l s m args meth c D cA ρ A) {Q : xQ} {J : xF → Prop} (hJ : ∀ y, J y → xWW k0 cl R nL p l e s m args below meth c D cA ρ A Q y)
    {pc n : Nat} {L : xL} {h : xH} {ls : Array Slot} {rest vs : List Value} (X : Stand p l e R s m args below meth c T locs (k0.1 + n) (k0.2 + 6 * n))
    (hl : lv_has ls nL (xla ρ 0 L)) (hP : va_P D cl (xw ρ cA 0 h) T.heap) (hD : va_D A (xw ρ cA 0 h)) (hS : va_S A s.heap T.heap locs) {ig : Instr} (hdg : decode cc pc = .ok (ig, 3))
    {y : MethodName} {mk : MethodId} (hn : T.methodNamed? y = some mk) {ws : List Cond} {rm : Room} {F : xP} (hM : xMet cl y ws rm F) {maxL : Nat} (hcY : ∃ methY cY, T.vm.method? mk = some methY ∧ methY.code = some cY ∧ cY.maxLocals = maxL) (hG : xGood Ts ws)
    (hini : Cond.initialized y.cls ∈ Ts) (hex : ∀ c s ρ A, Ex c s ρ A → c.exceptionTable.isEmpty = true) {rc rk : Nat} (hrc : k0.1 + rc ≤ R.cells) (hrs : k0.2 + 6 * rc ≤ R.slots) (hkc : rm.cells = rk) (hks : rm.slots = 6 * rk) (hfr : rm.frames + 1 ≤ R.frames) (hlo : 8 + (maxL + 11) + rm.locals ≤ R.locals)
    (hst : xcs rest ≤ 8) (hro : n + rk ≤ rc)
    (hF : F vs h (fun r h' n' => match r with
      | .inl none => J (pc + 3, L, rest, h', n + n')
      | .inl (some v) => J (pc + 3, L, v :: rest, h', n + n')
      | .inr X => Q (.inr X) h' (n + n'))) :
    ∃ t, Steps p.tables e below (doInvoke e (T.setTop (F0 m pc ls (rest.map (xv ρ)))) [] mk (vs.map (xv ρ)).toArray).1 t ∧ xMQ k0 cl D cA ρ A Q s below t := by
  have hlk := hX.2.2.2.2.1
  have hex := hex _ _ _ _ hX.2.2.2.2.2.2.2.2.2.1
  refine x_callG (PT := fun Z h' n' => Q (.inr Z) h' (n + n')) hX hJ X hl hP hD hS hdg hn hM hcY hG hini hrc hrs hkc hks hfr hlo hst hro hF (fun Z h' n' T' locs' a cell hq X' hP' hD' hS' ha hv hc1 hc2 => ?_)
  obtain ⟨h1, h2, h3, h4, h5⟩ := X'.leaveThrown a (g := F0 m pc ls (rest.map (xv ρ))) rfl rfl rfl (fun x hx => by
    have : c.exceptionTable.toList = [] := by
      have := Array.isEmpty_iff.mp hex
      rw [this]
    rw [this] at hx
    cases hx) hlk
  exact ⟨_, h1, .threw a, h2, h3, .inr Z, h', n + n', hq, ⟨a, cell, rfl, ha, hv, hc1, hc2⟩, hP', hD', ⟨hS'.1, fun q z1 z2 => hS'.2.1 q z1 z2⟩, h4, locs', h5, hS'.2.2⟩
end XK

section XJ
variable {k0 : Nat × Nat} {Ex : Code → State → (Nat → Nat) → (Nat → Prop) → Prop} {cl : List vw_C} {own : String} {Ts : List Cond} {cc : ByteArray} {nL : Nat} {ret : Option FieldType} {R : Room} {pc : Nat}
theorem take_app {α : Type} (np : Nat) (st : List α) : (st.take np).reverse.reverse ++ st.drop np = st := by rw [List.reverse_reverse, List.take_append_drop]

theorem s_callS {F : xP} {np rc rk i : Nat} {y : MethodName} {ws ws' : List Cond} {rm : Room} {bytes : ByteArray} {maxL : Nat} {rt : Option FieldType} (hM : xMet cl y ws rm F) (hd : decode cc pc = .ok (.invokestatic i, 3)) (hw : ws = Cond.code y bytes maxL rt :: ws') (hG : xGood Ts ws)
    (hlink : Cond.methodLink own i y ∈ Ts) (hstat : Cond.static y ∈ Ts) (hini : Cond.initialized y.cls ∈ Ts) (hy : y.cls ≠ "java/lang/invoke/MethodHandle" ∧ y.cls ≠ "java/lang/invoke/VarHandle" ∧ (parseMethodDescriptor y.desc).map (fun d => d.parameters.length) = some np)
    (hrc : k0.1 + rc ≤ R.cells ∧ k0.2 + 6 * rc ≤ R.slots ∧ rm.cells = rk ∧ rm.slots = 6 * rk ∧ rm.frames + 1 ≤ R.frames ∧ 8 + (maxL + 11) + rm.locals ≤ R.locals) (hex : ∀ c s ρ A, Ex c s ρ A → c.exceptionTable.isEmpty = true) : xSd k0 Ex cl own Ts cc nL ret R (pc, o_call F np rc rk) := by
  intro p l e s m args below meth c D cA ρ A X Q J x hpc hJ ho H locs ls hl hP hD hS
  obtain ⟨pc', L, st, h, n⟩ := x
  obtain rfl : pc' = pc := hpc
  obtain ⟨h0, ho⟩ := bif_t ho
  rw [Bool.and_eq_true, Bool.and_eq_true] at h0
  dsimp only at h0 ho
  have hlen : (st.take np).length = np := by rw [List.length_take]; exact Nat.min_eq_left (Nat.le_of_ble_eq_true h0.1)
  intro T hT S
  subst hT
  have hts := X.2.2.2.2.2.2.1
  have hcw : Cond.code y bytes maxL rt ∈ ws := by rw [hw]; exact List.mem_cons_self
  have hcode := hts _ (hG _ hcw).1
  obtain ⟨mk, hnamed⟩ := Cond.code_named hcode
  obtain ⟨methM, cM, hmethM, hcM, -, hlM, -, -, -, hsigM⟩ := Cond.code_spec hnamed hcode
  have hstatic : methM.isStatic = true := Cond.static_spec hnamed hmethM (hts _ hstat)
  obtain ⟨kP, hkP, -⟩ := className_of_methodNamed hnamed
  have hinitP : kP.init = .initialized := Cond.initialized_spec (findClass_of_methodNamed hnamed) hkP (hts _ hini)
  have hpl : ((st.take np).reverse.map (xv ρ)).length = methM.sig.parameters.length := by
    have h2 := hy.2.2
    rw [hsigM] at h2
    rw [List.length_map, List.length_reverse, hlen]
    exact (Option.some.inj h2).symm
  obtain ⟨vm₁, X₁, hstep₁⟩ := S.invokestatic X.1 X.2.2.2.2.2.1 (hts _ hlink) hnamed hmethM hstatic hkP hinitP ⟨hy.1, hy.2.1⟩ (g := F0 m pc' ls (st.map (xv ρ))) rfl (argsL := (st.take np).reverse.map (xv ρ)) (rest := (st.drop np).map (xv ρ)) hpl (by
    show st.map (xv ρ) = _
    rw [← List.map_reverse, ← List.map_append, take_app]) (by rw [X.2.1]; exact hd)
  obtain ⟨t, a1, b1⟩ := x_call (T := T.setVm vm₁) X hJ (pc := pc') (ls := ls) (rest := st.drop np) (vs := (st.take np).reverse) X₁ hl hP hD hS hd (X₁.named hnamed) hM ⟨methM, cM, by rw [X₁.warmed.alike.method?]; exact hmethM, hcM, hlM⟩ hG hini hex hrc.1 hrc.2.1 hrc.2.2.1 hrc.2.2.2.1 hrc.2.2.2.2.1 hrc.2.2.2.2.2 (Nat.le_of_ble_eq_true h0.2.1) (Nat.le_of_ble_eq_true h0.2.2) ho
  exact ⟨t, hstep₁ _ fun acts => by rw [doInvoke_state]; exact a1, b1⟩
theorem s_callSN {F : xP} {np rc rk i : Nat} {host : String} {y : MethodName} {ws ws' : List Cond} {rm : Room} {bytes : ByteArray} {maxL : Nat} {rt : Option FieldType} (hM : xMet cl y ws rm F) (hd : decode cc pc = .ok (.invokestatic i, 3)) (hw : ws = Cond.code y bytes maxL rt :: ws') (hG : xGood Ts ws)
    (hlink : Cond.methodLinkNest own i y host ∈ Ts) (hstat : Cond.static y ∈ Ts) (hini : Cond.initialized y.cls ∈ Ts) (hy : y.cls ≠ "java/lang/invoke/MethodHandle" ∧ y.cls ≠ "java/lang/invoke/VarHandle" ∧ (parseMethodDescriptor y.desc).map (fun d => d.parameters.length) = some np)
    (hrc : k0.1 + rc ≤ R.cells ∧ k0.2 + 6 * rc ≤ R.slots ∧ rm.cells = rk ∧ rm.slots = 6 * rk ∧ rm.frames + 1 ≤ R.frames ∧ 8 + (maxL + 11) + rm.locals ≤ R.locals) (hex : ∀ c s ρ A, Ex c s ρ A → c.exceptionTable.isEmpty = true) : xSd k0 Ex cl own Ts cc nL ret R (pc, o_call F np rc rk) := by
  intro p l e s m args below meth c D cA ρ A X Q J x hpc hJ ho H locs ls hl hP hD hS
  obtain ⟨pc', L, st, h, n⟩ := x
  obtain rfl : pc' = pc := hpc
  obtain ⟨h0, ho⟩ := bif_t ho
  rw [Bool.and_eq_true, Bool.and_eq_true] at h0
  dsimp only at h0 ho
  have hlen : (st.take np).length = np := by rw [List.length_take]; exact Nat.min_eq_left (Nat.le_of_ble_eq_true h0.1)
  intro T hT S
  subst hT
  have hts := X.2.2.2.2.2.2.1
  have hcw : Cond.code y bytes maxL rt ∈ ws := by rw [hw]; exact List.mem_cons_self
  have hcode := hts _ (hG _ hcw).1
  obtain ⟨mk, hnamed⟩ := Cond.code_named hcode
  obtain ⟨methM, cM, hmethM, hcM, -, hlM, -, -, -, hsigM⟩ := Cond.code_spec hnamed hcode
  have hstatic : methM.isStatic = true := Cond.static_spec hnamed hmethM (hts _ hstat)
  obtain ⟨kP, hkP, -⟩ := className_of_methodNamed hnamed
  have hinitP : kP.init = .initialized := Cond.initialized_spec (findClass_of_methodNamed hnamed) hkP (hts _ hini)
  have hpl : ((st.take np).reverse.map (xv ρ)).length = methM.sig.parameters.length := by
    have h2 := hy.2.2
    rw [hsigM] at h2
    rw [List.length_map, List.length_reverse, hlen]
    exact (Option.some.inj h2).symm
  obtain ⟨vm₁, X₁, hstep₁⟩ := S.invokestaticNest X.1 X.2.2.2.2.2.1 (hts _ hlink) hnamed hmethM hstatic hkP hinitP ⟨hy.1, hy.2.1⟩ (g := F0 m pc' ls (st.map (xv ρ))) rfl (argsL := (st.take np).reverse.map (xv ρ)) (rest := (st.drop np).map (xv ρ)) hpl (by
    show st.map (xv ρ) = _
    rw [← List.map_reverse, ← List.map_append, take_app]) (by rw [X.2.1]; exact hd)
  obtain ⟨t, a1, b1⟩ := x_call (T := T.setVm vm₁) X hJ (pc := pc') (ls := ls) (rest := st.drop np) (vs := (st.take np).reverse) X₁ hl hP hD hS hd (X₁.named hnamed) hM ⟨methM, cM, by rw [X₁.warmed.alike.method?]; exact hmethM, hcM, hlM⟩ hG hini hex hrc.1 hrc.2.1 hrc.2.2.1 hrc.2.2.2.1 hrc.2.2.2.2.1 hrc.2.2.2.2.2 (Nat.le_of_ble_eq_true h0.2.1) (Nat.le_of_ble_eq_true h0.2.2) ho
  exact ⟨t, hstep₁ _ fun acts => by rw [doInvoke_state]; exact a1, b1⟩
/-- a call on an object: of the kind ci -/
def o_callV (F : xP) (ci np rc rk : Nat) : xOp := fun x k Q => match (x.2.2.1.drop np) with
  | .ref a :: _ => match x.2.2.2.1[a]? with
    | some (.inr (cj, _)) => bif Nat.beq cj ci then o_call F (np + 1) rc rk x k Q else False
    | _ => False
  | _ => False

theorem s_callV {F : xP} {ci np rc rk i : Nat} {C : String} {T0 : u_T} {N : Nat} {y : MethodName} {ws ws' : List Cond} {rm : Room} {bytes : ByteArray} {maxL : Nat} {rt : Option FieldType} (hM : xMet cl y ws rm F) (hd : decode cc pc = .ok (.invokevirtual i, 3)) (hw : ws = Cond.code y bytes maxL rt :: ws') (hG : xGood Ts ws) (hc : cl[ci]? = some (C, T0, N))
    (hlink : Cond.methodLink own i y ∈ Ts) (hinst : Cond.instanceMethod y ∈ Ts) (hsel : Cond.selects C y y ∈ Ts) (hini : Cond.initialized y.cls ∈ Ts) (hy : y.cls ≠ "java/lang/invoke/MethodHandle" ∧ y.cls ≠ "java/lang/invoke/VarHandle" ∧ (parseMethodDescriptor y.desc).map (fun d => d.parameters.length) = some np)
    (hrc : k0.1 + rc ≤ R.cells ∧ k0.2 + 6 * rc ≤ R.slots ∧ rm.cells = rk ∧ rm.slots = 6 * rk ∧ rm.frames + 1 ≤ R.frames ∧ 8 + (maxL + 11) + rm.locals ≤ R.locals) (hex : ∀ c s ρ A, Ex c s ρ A → c.exceptionTable.isEmpty = true) : xSd k0 Ex cl own Ts cc nL ret R (pc, o_callV F ci np rc rk) := by
  intro p l e s m args below meth c D cA ρ A X Q J x hpc hJ ho H locs ls hl hP hD hS
  obtain ⟨pc', L, st, h, n⟩ := x
  obtain rfl : pc' = pc := hpc
  dsimp only [o_callV] at ho
  split at ho
  · rename_i a r0 hdr
    split at ho
    · rename_i cj fs he
      obtain ⟨hcc, ho1⟩ := bif_t ho
      obtain rfl : cj = ci := Nat.eq_of_beq_eq_true hcc
      clear ho
      unfold o_call at ho1
      obtain ⟨h0, ho⟩ := bif_t ho1
      rw [Bool.and_eq_true, Bool.and_eq_true] at h0
      dsimp only at h0 ho
      have hdr1 : st.drop (np + 1) = r0 := by
        rw [← List.drop_drop, hdr]; rfl
      have hlt : np < st.length := Nat.le_of_ble_eq_true h0.1
      have hlen : (st.take np).length = np := by rw [List.length_take]; omega
      have htk : (st.take (np + 1)).reverse = .ref a :: (st.take np).reverse := by
        have e1 : st = st.take np ++ .ref a :: r0 := by rw [← hdr, List.take_append_drop]
        have e2 : st.take (np + 1) = st.take np ++ [.ref a] := by
          conv => lhs; rw [e1]
          rw [List.take_append, List.take_of_length_le (by omega), hlen]
          simp
        rw [e2]; simp
      intro T hT S
      subst hT
      have hts := X.2.2.2.2.2.2.1
      have hcw : Cond.code y bytes maxL rt ∈ ws := by rw [hw]; exact List.mem_cons_self
      have hcode := hts _ (hG _ hcw).1
      obtain ⟨mk, methM, hnamed, hmethM, hstM, habM⟩ := Cond.instanceMethod_spec (hts _ hinst)
      obtain ⟨methM', cM, hmethM', hcM, -, hlM, -, -, -, hsigM⟩ := Cond.code_spec hnamed hcode
      cases hmethM.symm.trans hmethM'
      obtain ⟨c2, r2, m2, q1, q2, q3, q4, kP, hkP, hkPi⟩ := Cond.selects_spec (hts _ hsel)
      obtain ⟨cell, hcell, hclB, hoB⟩ : ∃ cell : Cell, T.heap[ρ a]? = some cell ∧ s.vm.findClass C = some cell.cls ∧ cell.vm.isStatics = false := by
        obtain ⟨r, h1, cell, w1, w2, w3, w4⟩ := hP a _ (xw_at he)
        have hr : r = (C, T0, N) := Option.some.inj (h1.symm.trans hc)
        subst hr
        have hk1 := (X.2.2.2.2.2.2.2.1).1 _ _ hc
        exact ⟨cell, w1, by rw [w2]; exact hk1.2.1, by rw [w3]; rfl⟩
      cases hclB.symm.trans q1
      cases (State.methodFound?_of_named hnamed ⟨hy.1, hy.2.1⟩).symm.trans q2
      cases hnamed.symm.trans q3
      have hselP : selectMethod e.platform s.vm cell.cls mk = .method mk := by rw [Launch.admits_selectMethod S.admits]; exact q4
      have hpl : ((st.take np).reverse.map (xv ρ)).length = methM.sig.parameters.length := by
        have h2 := hy.2.2
        rw [hsigM] at h2
        rw [List.length_map, List.length_reverse, hlen]
        exact (Option.some.inj h2).symm
      obtain ⟨vm₁, X₁, hstep₁⟩ := S.invokevirtual X.1 X.2.2.2.2.2.1 (hts _ hlink) hnamed hmethM hstM hkP hkPi ⟨hy.1, hy.2.1⟩ (a := ρ a) (cell := cell) hcell (fun z q => by rw [q] at hoB; cases hoB) hselP hmethM habM hkP hkPi (g := F0 m pc' ls (st.map (xv ρ))) rfl (argsL := (st.take np).reverse.map (xv ρ)) (rest := (st.drop (np + 1)).map (xv ρ)) hpl (by
        show st.map (xv ρ) = _
        rw [← List.map_reverse, List.reverse_reverse, hdr1]
        conv => lhs; rw [← List.take_append_drop np st, hdr]
        rw [List.map_append]; rfl) (by rw [X.2.1]; exact hd)
      rw [htk] at ho
      obtain ⟨t, a1, b1⟩ := x_call (T := T.setVm vm₁) X hJ (pc := pc') (ls := ls) (rest := st.drop (np + 1)) (vs := .ref a :: (st.take np).reverse) X₁ hl hP hD hS hd (X₁.named hnamed) hM ⟨methM, cM, by rw [X₁.warmed.alike.method?]; exact hmethM, hcM, hlM⟩ hG hini hex hrc.1 hrc.2.1 hrc.2.2.1 hrc.2.2.2.1 hrc.2.2.2.2.1 hrc.2.2.2.2.2 (Nat.le_of_ble_eq_true h0.2.1) (Nat.le_of_ble_eq_true h0.2.2) ho
      exact ⟨t, hstep₁ _ fun acts => by rw [doInvoke_state]; exact a1, b1⟩
    · exact ho.elim
  · exact ho.elim
theorem s_callVN {F : xP} {ci np rc rk i : Nat} {C : String} {T0 : u_T} {N : Nat} {host : String} {y : MethodName} {ws ws' : List Cond} {rm : Room} {bytes : ByteArray} {maxL : Nat} {rt : Option FieldType} (hM : xMet cl y ws rm F) (hd : decode cc pc = .ok (.invokevirtual i, 3)) (hw : ws = Cond.code y bytes maxL rt :: ws') (hG : xGood Ts ws) (hc : cl[ci]? = some (C, T0, N))
    (hlink : Cond.methodLinkNest own i y host ∈ Ts) (hinst : Cond.instanceMethod y ∈ Ts) (hsel : Cond.selects C y y ∈ Ts) (hini : Cond.initialized y.cls ∈ Ts) (hy : y.cls ≠ "java/lang/invoke/MethodHandle" ∧ y.cls ≠ "java/lang/invoke/VarHandle" ∧ (parseMethodDescriptor y.desc).map (fun d => d.parameters.length) = some np)
    (hrc : k0.1 + rc ≤ R.cells ∧ k0.2 + 6 * rc ≤ R.slots ∧ rm.cells = rk ∧ rm.slots = 6 * rk ∧ rm.frames + 1 ≤ R.frames ∧ 8 + (maxL + 11) + rm.locals ≤ R.locals) (hex : ∀ c s ρ A, Ex c s ρ A → c.exceptionTable.isEmpty = true) : xSd k0 Ex cl own Ts cc nL ret R (pc, o_callV F ci np rc rk) := by
  intro p l e s m args below meth c D cA ρ A X Q J x hpc hJ ho H locs ls hl hP hD hS
  obtain ⟨pc', L, st, h, n⟩ := x
  obtain rfl : pc' = pc := hpc
  dsimp only [o_callV] at ho
  split at ho
  · rename_i a r0 hdr
    split at ho
    · rename_i cj fs he
      obtain ⟨hcc, ho1⟩ := bif_t ho
      obtain rfl : cj = ci := Nat.eq_of_beq_eq_true hcc
      clear ho
      unfold o_call at ho1
      obtain ⟨h0, ho⟩ := bif_t ho1
      rw [Bool.and_eq_true, Bool.and_eq_true] at h0
      dsimp only at h0 ho
      have hdr1 : st.drop (np + 1) = r0 := by
        rw [← List.drop_drop, hdr]; rfl
      have hlt : np < st.length := Nat.le_of_ble_eq_true h0.1
      have hlen : (st.take np).length = np := by rw [List.length_take]; omega
      have htk : (st.take (np + 1)).reverse = .ref a :: (st.take np).reverse := by
        have e1 : st = st.take np ++ .ref a :: r0 := by rw [← hdr, List.take_append_drop]
        have e2 : st.take (np + 1) = st.take np ++ [.ref a] := by
          conv => lhs; rw [e1]
          rw [List.take_append, List.take_of_length_le (by omega), hlen]
          simp
        rw [e2]; simp
      intro T hT S
      subst hT
      have hts := X.2.2.2.2.2.2.1
      have hcw : Cond.code y bytes maxL rt ∈ ws := by rw [hw]; exact List.mem_cons_self
      have hcode := hts _ (hG _ hcw).1
      obtain ⟨mk, methM, hnamed, hmethM, hstM, habM⟩ := Cond.instanceMethod_spec (hts _ hinst)
      obtain ⟨methM', cM, hmethM', hcM, -, hlM, -, -, -, hsigM⟩ := Cond.code_spec hnamed hcode
      cases hmethM.symm.trans hmethM'
      obtain ⟨c2, r2, m2, q1, q2, q3, q4, kP, hkP, hkPi⟩ := Cond.selects_spec (hts _ hsel)
      obtain ⟨cell, hcell, hclB, hoB⟩ : ∃ cell : Cell, T.heap[ρ a]? = some cell ∧ s.vm.findClass C = some cell.cls ∧ cell.vm.isStatics = false := by
        obtain ⟨r, h1, cell, w1, w2, w3, w4⟩ := hP a _ (xw_at he)
        have hr : r = (C, T0, N) := Option.some.inj (h1.symm.trans hc)
        subst hr
        have hk1 := (X.2.2.2.2.2.2.2.1).1 _ _ hc
        exact ⟨cell, w1, by rw [w2]; exact hk1.2.1, by rw [w3]; rfl⟩
      cases hclB.symm.trans q1
      cases (State.methodFound?_of_named hnamed ⟨hy.1, hy.2.1⟩).symm.trans q2
      cases hnamed.symm.trans q3
      have hselP : selectMethod e.platform s.vm cell.cls mk = .method mk := by rw [Launch.admits_selectMethod S.admits]; exact q4
      have hpl : ((st.take np).reverse.map (xv ρ)).length = methM.sig.parameters.length := by
        have h2 := hy.2.2
        rw [hsigM] at h2
        rw [List.length_map, List.length_reverse, hlen]
        exact (Option.some.inj h2).symm
      obtain ⟨vm₁, X₁, hstep₁⟩ := S.invokevirtualNest X.1 X.2.2.2.2.2.1 (hts _ hlink) hnamed hmethM hstM hkP hkPi ⟨hy.1, hy.2.1⟩ (a := ρ a) (cell := cell) hcell (fun z q => by rw [q] at hoB; cases hoB) hselP hmethM habM hkP hkPi (g := F0 m pc' ls (st.map (xv ρ))) rfl (argsL := (st.take np).reverse.map (xv ρ)) (rest := (st.drop (np + 1)).map (xv ρ)) hpl (by
        show st.map (xv ρ) = _
        rw [← List.map_reverse, List.reverse_reverse, hdr1]
        conv => lhs; rw [← List.take_append_drop np st, hdr]
        rw [List.map_append]; rfl) (by rw [X.2.1]; exact hd)
      rw [htk] at ho
      obtain ⟨t, a1, b1⟩ := x_call (T := T.setVm vm₁) X hJ (pc := pc') (ls := ls) (rest := st.drop (np + 1)) (vs := .ref a :: (st.take np).reverse) X₁ hl hP hD hS hd (X₁.named hnamed) hM ⟨methM, cM, by rw [X₁.warmed.alike.method?]; exact hmethM, hcM, hlM⟩ hG hini hex hrc.1 hrc.2.1 hrc.2.2.1 hrc.2.2.2.1 hrc.2.2.2.2.1 hrc.2.2.2.2.2 (Nat.le_of_ble_eq_true h0.2.1) (Nat.le_of_ble_eq_true h0.2.2) ho
      exact ⟨t, hstep₁ _ fun acts => by rw [doInvoke_state]; exact a1, b1⟩
    · exact ho.elim
  · exact ho.elim
end XJ
