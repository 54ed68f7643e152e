-- A CALL WHOSE EXCEPTIONS ARE CAUGHT BY NAME: the rows of the exception table are searched, their class constants linked or not
section XH
variable {Q : Handler → Pre} {E : CtlPost} {e : Env} {d : Bool} {acts : List Action} {s : State} {f : JFrame} {a : Addr}
theorem x_goYes {x : ExceptionTableEntry} {t : List ExceptionTableEntry} {c : ClassId} {cell : Cell} (hx : covers x f.pc = true) (h0 : x.catchType ≠ 0) (hl : s.vm.ClassLinks e.platform f.method.cls x.catchType c) (hcell : s.heap[a]? = some cell) (hobj : ∀ k, cell.vm ≠ .statics k)
    (hk : ∃ k, s.vm.classes[cell.cls]? = some k) (hc : ∃ k, s.vm.classes[c]? = some k) (hfit : s.vm.assignable cell.cls c = true) :
    wp (findHandler.go f a (x :: t)) Q E e d acts s ↔ Q (.found x.handlerPc) d acts (s.setVm (s.vm.noted f.method.cls x.catchType (.cls c))) := by
  simp only [covers] at hx
  obtain ⟨ha, ht⟩ := (resolveClass_links e.toSetting hl).op (op := VmOp.resolveClass f.method.cls x.catchType) rfl
  have hal : s.vm.Alike (s.vm.noted f.method.cls x.catchType (.cls c)) := (Vm.Alike.refl s.vm).noted _ _ _
  obtain ⟨k1, hk1⟩ := hk
  obtain ⟨k2, hk2⟩ := hc
  obtain ⟨k1', hk1', -⟩ := hal.2.2 _ _ hk1
  obtain ⟨k2', hk2', -⟩ := hal.2.2 _ _ hk2
  have hfit' : (s.vm.noted f.method.cls x.catchType (.cls c)).assignable cell.cls c = true := by rw [hal.assignable]; exact hfit
  simp [findHandler.go, hx, h0, ha, ht, hcell, hobj, hk1', hk2', hfit', VmOp.dirties, VmOp.acts]
theorem x_goNo {x : ExceptionTableEntry} {t : List ExceptionTableEntry} {c : ClassId} {cell : Cell} (hx : covers x f.pc = true) (h0 : x.catchType ≠ 0) (hl : s.vm.ClassLinks e.platform f.method.cls x.catchType c) (hcell : s.heap[a]? = some cell) (hobj : ∀ k, cell.vm ≠ .statics k)
    (hk : ∃ k, s.vm.classes[cell.cls]? = some k) (hc : ∃ k, s.vm.classes[c]? = some k) (hno : s.vm.assignable cell.cls c = false) :
    wp (findHandler.go f a (x :: t)) Q E e d acts s ↔ wp (findHandler.go f a t) Q E e d acts (s.setVm (s.vm.noted f.method.cls x.catchType (.cls c))) := by
  simp only [covers] at hx
  obtain ⟨ha, ht⟩ := (resolveClass_links e.toSetting hl).op (op := VmOp.resolveClass f.method.cls x.catchType) rfl
  have hal : s.vm.Alike (s.vm.noted f.method.cls x.catchType (.cls c)) := (Vm.Alike.refl s.vm).noted _ _ _
  obtain ⟨k1, hk1⟩ := hk
  obtain ⟨k2, hk2⟩ := hc
  obtain ⟨k1', hk1', -⟩ := hal.2.2 _ _ hk1
  obtain ⟨k2', hk2', -⟩ := hal.2.2 _ _ hk2
  have hno' : (s.vm.noted f.method.cls x.catchType (.cls c)).assignable cell.cls c = false := by rw [hal.assignable]; exact hno
  simp [findHandler.go, hx, h0, ha, ht, hcell, hobj, hk1', hk2', hno', VmOp.dirties, VmOp.acts]
end XH
/-- what the search gives and the tables that it leaves -/
def xFinds (e : Env) (s : State) (f : JFrame) (a : Addr) (hp : Nat) (vm' : Vm) : Prop := ∀ (Q : Handler → Pre) (E : CtlPost) (d : Bool) (acts : List Action), wp (findHandler f a) Q E e d acts s ↔ Q (.found hp) d acts (s.setVm vm')
theorem x_search {e : Env} {s₀ : State} {f : JFrame} {a : Addr} {cell : Cell} (hobj : ∀ k, cell.vm ≠ .statics k) (hk0 : ∃ k, s₀.vm.classes[cell.cls]? = some k) (x : ExceptionTableEntry) (rest : List ExceptionTableEntry) (hx : covers x f.pc = true) (h0 : x.catchType ≠ 0)
    {c : ClassId} (hl : s₀.vm.ClassLinks e.platform f.method.cls x.catchType c) (hfit : s₀.vm.assignable cell.cls c = true) :
    ∀ (pre : List ExceptionTableEntry) (S : State), s₀.WarmedH S.vm → S.heap[a]? = some cell → (∀ y ∈ pre, covers y f.pc = true ∧ y.catchType ≠ 0 ∧ ∃ c, s₀.vm.ClassLinks e.platform f.method.cls y.catchType c ∧ s₀.vm.assignable cell.cls c = false) →
      ∃ vm', s₀.WarmedH vm' ∧ ∀ (Q : Handler → Pre) (E : CtlPost) (d : Bool) (acts : List Action), wp (findHandler.go f a (pre ++ x :: rest)) Q E e d acts S ↔ Q (.found x.handlerPc) d acts (S.setVm vm') := by
  obtain ⟨k0, hk0⟩ := hk0
  intro pre
  induction pre with
  | nil =>
    intro S hW hcell _
    obtain ⟨k0', hk0', -⟩ := hW.alike.2.2 _ _ hk0
    obtain ⟨dk, _, _, kt, hd, _, _, _, _, hkt, _, hcold⟩ := hl.here
    obtain ⟨kt', hkt', -⟩ := hW.alike.2.2 _ _ hkt
    refine ⟨_, hW.noted hd hcold (State.rightAt_cls hl), fun Q E d acts => ?_⟩
    rw [List.nil_append]
    exact x_goYes hx h0 (hW.classLinks hl) hcell hobj ⟨k0', hk0'⟩ ⟨kt', hkt'⟩ (by rw [hW.alike.assignable]; exact hfit)
  | cons y ys ih =>
    intro S hW hcell hpass
    obtain ⟨k0', hk0', -⟩ := hW.alike.2.2 _ _ hk0
    obtain ⟨hcov, hy0, c', hl', hno⟩ := hpass y (List.mem_cons_self ..)
    obtain ⟨dk, _, _, kt, hd, _, _, _, _, hkt, _, hcold⟩ := hl'.here
    obtain ⟨kt', hkt', -⟩ := hW.alike.2.2 _ _ hkt
    obtain ⟨vm', hW', hq⟩ := ih (S.setVm (S.vm.noted f.method.cls y.catchType (.cls c'))) (hW.noted hd hcold (State.rightAt_cls hl')) hcell (fun z hz => hpass z (List.mem_cons_of_mem _ hz))
    refine ⟨vm', hW', fun Q E d acts => ?_⟩
    rw [List.cons_append, x_goNo hcov hy0 (hW.classLinks hl') hcell hobj ⟨k0', hk0'⟩ ⟨kt', hkt'⟩ (by rw [hW.alike.assignable]; exact hno)]
    exact hq Q E d acts
theorem x_catchStep {e : Env} {s : State} {a : Addr} {f : JFrame} {r : List Frame} {pc : Nat} {vm' : Vm} (hfind : xFinds e s f a pc vm') :
    (stepThrowing e s a (.java f :: r)).Is ((s.setVm vm').setFrames (.java { f with pc := pc, stack := [.ref a] } :: r)) [] := by
  simp only [stepThrowing, searchFrame, vmDo]
  generalize hr : Sem.go _ e false [] s = res
  obtain ⟨as, rfl, ha⟩ := Sem.eq_ok_of hr (a := Handler.found pc) (s' := s.setVm vm') (acts' := []) (by simp [hfind _ _ _ _])
  exact ⟨rfl, ha⟩
theorem x_caught {tb : Tables} {e : Env} {s target : State} {g : JFrame} {c : Code} {below : List Frame} {a : Addr} (h : At s g.method c below) {pc : Nat} {vm' : Vm}
    (hfind : xFinds e ((s.setTop g).pushFrame (.throwing a)) g a pc vm') (hrest : Steps tb e below ((s.setVm vm').setTop { g with pc := pc, stack := [.ref a] }) target) :
    Steps tb e below ((s.setTop g).pushFrame (.throwing a)) target := by
  obtain ⟨hgo, hw⟩ := h.throwing a
  refine Steps.head hgo hw ?_
  rw [stepThread_throwing (frames_entered h.top _), (x_catchStep (s := (s.setTop g).pushFrame (.throwing a)) hfind).1]
  obtain ⟨g₀, hg⟩ := Option.isSome_iff_exists.mp h.top
  obtain ⟨r, hr⟩ := State.topJava?_eq_some.mp hg
  have hr' : (s.setVm vm').frames = .java g₀ :: r := hr
  have hsf : ∀ (u : State) (F G : List Frame), ((u.setFrames F).setVm vm').setFrames G = (u.setVm vm').setFrames G := fun u F G => by
    have h1 : (u.setFrames F).setVm vm' = (u.setVm vm').setFrames F := rfl
    rw [h1, State.setFrames_setFrames]
  rw [State.setTop_of_frames _ hr'] at hrest
  rw [hr, List.tail_cons, State.pushFrame, hsf, State.setTop_of_frames _ hr, hsf]
  exact hrest
/-- the method's own table of handlers -/
def xEh (hh : List (Nat × Nat × Nat × Nat)) : Code → State → (Nat → Nat) → (Nat → Prop) → Prop := fun c _ _ _ => c.exceptionTable.toList.map (fun h => (h.startPc, h.endPc, h.handlerPc, h.catchType)) = hh
/-- what catches the exception Z at pc: an entry behind entries of other classes; its handler stores the exception, and answers a number -/
def xHand (own : String) (Ts : List Cond) (cc : ByteArray) (nL pc : Nat) (hh : List (Nat × Nat × Nat × Nat)) (Z : Nat) (v : Int32) : Prop :=
  ∃ (pre : List (Nat × Nat × Nat × Nat)) (q : Nat × Nat × Nat × Nat) (rest : List (Nat × Nat × Nat × Nat)), hh = pre ++ q :: rest ∧ (q.1 ≤ pc ∧ pc < q.2.1) ∧ q.2.2.2 ≠ 0 ∧ Cond.classLink own q.2.2.2 (xEx Z) ∈ Ts ∧ Cond.castable (xEx Z) (xEx Z) ∈ Ts ∧
    (∀ y ∈ pre, (y.1 ≤ pc ∧ pc < y.2.1) ∧ y.2.2.2 ≠ 0 ∧ ∃ Z', Cond.classLink own y.2.2.2 (xEx Z') ∈ Ts ∧ Cond.not (.castable (xEx Z) (xEx Z')) ∈ xNC) ∧
    ∃ z : Int, Int32.ofInt z = v ∧ ((∃ i, i < nL ∧ decode cc q.2.2.1 = .ok (.astore i, 2) ∧ decode cc (q.2.2.1 + 2) = .ok (.iconst z, 1) ∧ decode cc (q.2.2.1 + 3) = .ok (.ireturn, 1)) ∨
      ∃ i : Fin 4, i.val < nL ∧ decode cc q.2.2.1 = .ok (.astore_n i, 1) ∧ decode cc (q.2.2.1 + 1) = .ok (.iconst z, 1) ∧ decode cc (q.2.2.1 + 2) = .ok (.ireturn, 1))
def o_callH (F : xP) (ci np rc rk : Nat) (hs : Nat → Option Int32) : xOp := fun x k Q => match (x.2.2.1.drop np) with
  | .ref a :: _ => match x.2.2.2.1[a]? with
    | some (.inr (cj, _)) => bif Nat.beq cj ci && (Nat.ble (np + 1) x.2.2.1.length && (Nat.ble (xcs (x.2.2.1.drop (np + 1))) 8 && Nat.ble (x.2.2.2.2 + rk) rc)) then
      F (x.2.2.1.take (np + 1)).reverse x.2.2.2.1 (fun r h' n' => match r with
        | .inl none => k (x.1 + 3, x.2.1, x.2.2.1.drop (np + 1), h', x.2.2.2.2 + n')
        | .inl (some v) => k (x.1 + 3, x.2.1, v :: x.2.2.1.drop (np + 1), h', x.2.2.2.2 + n')
        | .inr Z => match hs Z with
          | some v => Q (.inl (some (.int v))) h' (x.2.2.2.2 + n')
          | none => False) else False
    | _ => False
  | _ => False
section XI
variable {k0 : Nat × Nat} {cl : List vw_C} {p : Program} {l : Launch} {e : Env} {R : Room} {s : State} {m : MethodId} {args : Array Value} {below : List Frame} {meth : Method} {c : Code} {T : State} {locs : List Loc} {own : String} {Ts : List Cond} {cc : ByteArray} {nL : Nat} {D : va_G} {cA : Nat → ClassId} {ρ : Nat → Nat} {A : Nat → Prop} {hh : List (Nat × Nat × Nat × Nat)}
/-- from the throw to the handler's answer -/
theorem x_hand (hX : xCx (xEh hh) cl own Ts cc nL (some .int) p l s m args meth c D cA ρ A) {Q : xQ} {pc n : Nat} {h : xH} {ls : Array Slot} {L : List (Nat × Value)} {rest : List Value} {Z : Nat} {v : Int32} (X : Stand p l e R s m args below meth c T locs (k0.1 + n) (k0.2 + 6 * n))
    (hl : lv_has ls nL L) (hP : va_P D cl (xw ρ cA 0 h) T.heap) (hD : va_D A (xw ρ cA 0 h)) (hS : va_S A s.heap T.heap locs) {a : Addr} {cell : Cell} (ha : T.heap[a]? = some cell) (hv : ∀ k, cell.vm ≠ .statics k) (hc1 : s.vm.findClass (xEx Z) = some cell.cls) (hc2 : ∃ k, s.vm.classes[cell.cls]? = some k)
    (hH : xHand own Ts cc nL pc hh Z v) (hQ : Q (.inl (some (.int v))) h n) : ∃ t, Steps p.tables e below ((T.setTop (F0 m pc ls rest)).pushFrame (.throwing a)) t ∧ xMQ k0 cl D cA ρ A Q s below t := by
  obtain ⟨hx, hb, hml, hr, hlk, hown, hts, hK, hA, hex, hlo0, hns, hHs⟩ := hX
  obtain ⟨pre, q, rs, e1, hcov, hq0, hlink, hcast, hpre, z, hz, hdec⟩ := hH
  have hpl : e.platform.magicAccessors = ({} : Platform).magicAccessors := by rw [X.admits.platform]
  have e2 : c.exceptionTable.toList.map (fun h => (h.startPc, h.endPc, h.handlerPc, h.catchType)) = pre ++ q :: rs := hex.trans e1
  obtain ⟨l1, l2, e3, e4, e5⟩ := List.map_eq_append_iff.mp e2
  obtain ⟨x, l3, e6, e7, e8⟩ := List.map_eq_cons_iff.mp e5
  subst e6
  have hx1 : x.startPc = q.1 := by rw [← e7]
  have hx2 : x.endPc = q.2.1 := by rw [← e7]
  have hx3 : x.handlerPc = q.2.2.1 := by rw [← e7]
  have hx4 : x.catchType = q.2.2.2 := by rw [← e7]
  obtain ⟨cT, hcT, hclT⟩ := Cond.classLink_spec hown (by rw [hx4]; exact hts _ hlink : (Cond.classLink own x.catchType (xEx Z)).before args s = true) e.platform hpl
  have ecT : cT = cell.cls := Option.some.inj (hcT.symm.trans hc1)
  subst ecT
  obtain ⟨c3, c4, hc3, hc4, hasg⟩ := Cond.castable_spec (hts _ hcast)
  have ec3 : c3 = cell.cls := Option.some.inj (hc3.symm.trans hc1)
  have ec4 : c4 = cell.cls := Option.some.inj (hc4.symm.trans hc1)
  subst ec3
  rw [ec4] at hasg
  have hcov' : covers x (F0 m pc ls rest).pc = true := by simp [covers, hx1, hx2, hcov]
  obtain ⟨vm', hW', hfind⟩ := x_search (e := e) (s₀ := s) (f := F0 m pc ls rest) (a := a) (cell := cell) hv hc2 x l3 hcov' (by rw [hx4]; exact hq0) (c := cell.cls) hclT hasg l1 ((T.setTop (F0 m pc ls rest)).pushFrame (.throwing a)) X.warmed ha (fun y hy => by
    have hm : (y.startPc, y.endPc, y.handlerPc, y.catchType) ∈ pre := by rw [← e4]; exact List.mem_map_of_mem hy
    obtain ⟨w1, w2, Z', w3, w4⟩ := hpre _ hm
    obtain ⟨c', hc', hcl'⟩ := Cond.classLink_spec hown (hts _ w3) e.platform hpl
    refine ⟨by simp [covers, w1], w2, c', hcl', ?_⟩
    have hno := hHs.1 _ w4
    have hvv := Cond.holds_not_iff.mp hno
    simp only [Cond.value, hc1, hc'] at hvv
    exact Option.some.inj hvv)
  have hF : xFinds e ((T.setTop (F0 m pc ls rest)).pushFrame (.throwing a)) (F0 m pc ls rest) a q.2.2.1 vm' := fun Q E d acts => by
    rw [W.findHandler_eq (meth := meth) (code := c) X.method' X.code, e3, hfind Q E d acts, hx3]
  have X2 := X.noted hW'
  have key : W p l e R s m args below meth c T.heap locs (k0.1 + n) (k0.2 + 6 * n) (xMQ k0 cl D cA ρ A Q s below) (F0 m q.2.2.1 ls [.ref a]) := by
    rcases hdec with ⟨i, hi, d1, d2, d3⟩ | ⟨i, hi, d1, d2, d3⟩
    · refine lv_astore hx hb d1 hl hi rfl (fun ls' _ => ?_)
      refine lv_iconst hx hb d2 hz ?_
      exact W.mono (W.iret (v := v) (free := A) hx hb hr (fun t ht hW => ⟨rfl, ht, hW⟩) hS.2.2 d3 hlk) (fun t ht => xret (v := some (.int v)) hQ hP hD hS ht)
    · refine lv_astore_n hx hb d1 rfl hl hi rfl (fun ls' _ => ?_)
      refine lv_iconst hx hb d2 hz ?_
      exact W.mono (W.iret (v := v) (free := A) hx hb hr (fun t ht hW => ⟨rfl, ht, hW⟩) hS.2.2 d3 hlk) (fun t ht => xret (v := some (.int v)) hQ hP hD hS ht)
  obtain ⟨t, a1, b1⟩ := key (T.setVm vm') rfl X2
  exact ⟨t, x_caught (g := F0 m pc ls rest) X.here hF a1, b1⟩
end XI
section XJ
variable {k0 : Nat × Nat} {cl : List vw_C} {own : String} {Ts : List Cond} {cc : ByteArray} {nL : Nat} {R : Room} {pc : Nat} {hh : List (Nat × Nat × Nat × Nat)}
theorem s_callH {F : xP} {ci np rc rk i : Nat} {hs : Nat → Option Int32} {C : String} {T0 : u_T} {N : Nat} {y : MethodName} {ws ws' : List Cond} {rm : Room} {bytes : ByteArray} {maxL : Nat} {rt : Option FieldType} (hM : xMet cl y ws rm F) (hd : decode cc pc = .ok (.invokevirtual i, 3)) (hw : ws = Cond.code y bytes maxL rt :: ws') (hG : xGood Ts ws) (hc : cl[ci]? = some (C, T0, N))
    (hlink : Cond.methodLink own i y ∈ Ts) (hinst : Cond.instanceMethod y ∈ Ts) (hsel : Cond.selects C y y ∈ Ts) (hini : Cond.initialized y.cls ∈ Ts) (hy : y.cls ≠ "java/lang/invoke/MethodHandle" ∧ y.cls ≠ "java/lang/invoke/VarHandle" ∧ (parseMethodDescriptor y.desc).map (fun d => d.parameters.length) = some np)
    (hrc : k0.1 + rc ≤ R.cells ∧ k0.2 + 6 * rc ≤ R.slots ∧ rm.cells = rk ∧ rm.slots = 6 * rk ∧ rm.frames + 1 ≤ R.frames ∧ 8 + (maxL + 11) + rm.locals ≤ R.locals) (hH : ∀ Z v, hs Z = some v → xHand own Ts cc nL pc hh Z v) : xSd k0 (xEh hh) cl own Ts cc nL (some .int) R (pc, o_callH F ci np rc rk hs) := by
  intro p l e s m args below meth c D cA ρ A X Q J x hpc hJ ho H locs ls hl hP hD hS
  obtain ⟨pc', L, st, h, n⟩ := x
  obtain rfl : pc' = pc := hpc
  dsimp only [o_callH] at ho
  split at ho
  · rename_i a r0 hdr
    split at ho
    · rename_i cj fs he
      obtain ⟨h00, ho1⟩ := bif_t ho
      clear ho
      rw [Bool.and_eq_true, Bool.and_eq_true, Bool.and_eq_true] at h00
      obtain ⟨hcc, h0⟩ := h00
      obtain rfl : cj = ci := Nat.eq_of_beq_eq_true hcc
      have ho := ho1
      clear ho1
      have hdr1 : st.drop (np + 1) = r0 := by
        rw [← List.drop_drop, hdr]; rfl
      have hlt : np < st.length := Nat.le_of_ble_eq_true h0.1
      have hlen : (st.take np).length = np := by rw [List.length_take]; omega
      have htk : (st.take (np + 1)).reverse = .ref a :: (st.take np).reverse := by
        have e1 : st = st.take np ++ .ref a :: r0 := by rw [← hdr, List.take_append_drop]
        have e2 : st.take (np + 1) = st.take np ++ [.ref a] := by
          conv => lhs; rw [e1]
          rw [List.take_append, List.take_of_length_le (by omega), hlen]
          simp
        rw [e2]; simp
      intro T hT S
      subst hT
      have hts := X.2.2.2.2.2.2.1
      have hcw : Cond.code y bytes maxL rt ∈ ws := by rw [hw]; exact List.mem_cons_self
      have hcode := hts _ (hG _ hcw).1
      obtain ⟨mk, methM, hnamed, hmethM, hstM, habM⟩ := Cond.instanceMethod_spec (hts _ hinst)
      obtain ⟨methM', cM, hmethM', hcM, -, hlM, -, -, -, hsigM⟩ := Cond.code_spec hnamed hcode
      cases hmethM.symm.trans hmethM'
      obtain ⟨c2, r2, m2, q1, q2, q3, q4, kP, hkP, hkPi⟩ := Cond.selects_spec (hts _ hsel)
      obtain ⟨cell, hcell, hclB, hoB⟩ : ∃ cell : Cell, T.heap[ρ a]? = some cell ∧ s.vm.findClass C = some cell.cls ∧ cell.vm.isStatics = false := by
        obtain ⟨r, h1, cell, w1, w2, w3, w4⟩ := hP a _ (xw_at he)
        have hr : r = (C, T0, N) := Option.some.inj (h1.symm.trans hc)
        subst hr
        have hk1 := (X.2.2.2.2.2.2.2.1).1 _ _ hc
        exact ⟨cell, w1, by rw [w2]; exact hk1.2.1, by rw [w3]; rfl⟩
      cases hclB.symm.trans q1
      cases (State.methodFound?_of_named hnamed ⟨hy.1, hy.2.1⟩).symm.trans q2
      cases hnamed.symm.trans q3
      have hselP : selectMethod e.platform s.vm cell.cls mk = .method mk := by rw [Launch.admits_selectMethod S.admits]; exact q4
      have hpl : ((st.take np).reverse.map (xv ρ)).length = methM.sig.parameters.length := by
        have h2 := hy.2.2
        rw [hsigM] at h2
        rw [List.length_map, List.length_reverse, hlen]
        exact (Option.some.inj h2).symm
      obtain ⟨vm₁, X₁, hstep₁⟩ := S.invokevirtual X.1 X.2.2.2.2.2.1 (hts _ hlink) hnamed hmethM hstM hkP hkPi ⟨hy.1, hy.2.1⟩ (a := ρ a) (cell := cell) hcell (fun z q => by rw [q] at hoB; cases hoB) hselP hmethM habM hkP hkPi (g := F0 m pc' ls (st.map (xv ρ))) rfl (argsL := (st.take np).reverse.map (xv ρ)) (rest := (st.drop (np + 1)).map (xv ρ)) hpl (by
        show st.map (xv ρ) = _
        rw [← List.map_reverse, List.reverse_reverse, hdr1]
        conv => lhs; rw [← List.take_append_drop np st, hdr]
        rw [List.map_append]; rfl) (by rw [X.2.1]; exact hd)
      rw [htk] at ho
      obtain ⟨t, a1, b1⟩ := x_callG (PT := fun Z h' n' => match hs Z with | some v => Q (.inl (some (.int v))) h' (n + n') | none => False) (T := T.setVm vm₁) X hJ (pc := pc') (ls := ls) (rest := st.drop (np + 1)) (vs := .ref a :: (st.take np).reverse) X₁ hl hP hD hS hd (X₁.named hnamed) hM ⟨methM, cM, by rw [X₁.warmed.alike.method?]; exact hmethM, hcM, hlM⟩ hG hini hrc.1 hrc.2.1 hrc.2.2.1 hrc.2.2.2.1 hrc.2.2.2.2.1 hrc.2.2.2.2.2 (Nat.le_of_ble_eq_true h0.2.1) (Nat.le_of_ble_eq_true h0.2.2) ho (fun Z h' n' T' locs' a cell hq X' hP' hD' hS' ha hv hc1 hc2 => by
        cases hz : hs Z with
        | none => rw [hz] at hq; exact hq.elim
        | some v => rw [hz] at hq; exact x_hand X X' hl hP' hD' hS' ha hv hc1 hc2 (hH Z v hz) hq)
      exact ⟨t, hstep₁ _ fun acts => by rw [doInvoke_state]; exact a1, b1⟩
    · exact ho.elim
  · exact ho.elim
end XJ
theorem xMet.ofW {cl : List vw_C} {y : MethodName} {ws ws' : List Cond} {rm : Room} {cc : ByteArray} {nL : Nat} {ret : Option FieldType} {hh : List (Nat × Nat × Nat × Nat)} {tb : xT} (hy : plainName y.cls = true) (hw : ws = Cond.codeWith y cc nL ret hh :: ws') (hv : ∀ q ∈ tb, xSd (0, 0) (xEh hh) cl y.cls ws cc nL ret rm q) : xMet cl y ws rm (xRun tb nL) := by
  intro l D cA ρ vs h Q sz hlo hF
  refine MetFree.of_bodyS (code := cc) (maxLocals := nL) (ret := ret) hy ?_ ?_
  · intro args s m hh2 hn
    obtain ⟨m', meth, c, h0, h1, h2, h3, h4, -, h5, h6, -⟩ := Cond.codeWith_spec (atoms_spec (ws := ws) hh2 _ (by rw [hw]; exact List.mem_cons_self))
    have : m' = m := Option.some.inj (h0.symm.trans hn)
    subst this
    exact ⟨meth, c, h1, h2, h3, h4, h5, h6⟩
  · intro p e s m args below meth c s₁ B hml hP _
    obtain ⟨rfl, hsz, hP, hK, hD0, hHs⟩ := hP
    subst hsz
    have hh0 : s₁.heap = s.heap := by rw [B.state]; rfl
    have hts := atoms_spec (ws := ws) B.pre
    have hcw : Cond.codeWith y cc nL ret hh ∈ ws := by rw [hw]; exact List.mem_cons_self
    obtain ⟨m', meth', c', h0, h1, h2, -, -, h5, -, -, -⟩ := Cond.codeWith_spec (hts _ hcw)
    have e0 : m' = m := Option.some.inj (h0.symm.trans B.named)
    subst e0
    cases B.method.symm.trans h1
    cases (Stand.of_body B).code.symm.trans h2
    have hX : xCx (xEh hh) cl y.cls ws cc nL ret p l s m' (vs.map (xv ρ)).toArray meth c D cA ρ (xA ρ h.length s.heap.size) :=
      ⟨B.exec, B.bytes, hml, B.returns, B.notSynchronized, findClass_of_methodNamed B.named, hts, hK, fun q hq => Or.inr hq, h5, hlo, x_ns hP, hHs⟩
    have hl := lv_entry (vs.map (xv ρ)) (n := nL) (by rw [xen_len]; exact hF.1)
    have hk := xSd.all (l := l) (e := e) (below := below) (ρ := ρ) hv hX hF.2 s.heap [] _ (by rw [xen_la]; exact hl) hP (xD_A hD0) va_S.rf
    obtain ⟨t, a1, o, b1, b2, b3⟩ := hk s₁ hh0 (Stand.of_body B)
    exact ⟨t, o, by rw [lg_entry_eq]; exact a1, b1, b2, b3⟩
