theorem tv_1 : (Cond.initialized "NameMover") ∈ xt2 := xt2_t (i := 1) (by decide +kernel) (by decide +kernel)
theorem tv_20 : (Cond.instantiable "NameMover" 6) ∈ xt2 := xt2_t (i := 20) (by decide +kernel) (by decide +kernel)
theorem tv_761 : (Cond.instantiable "NameMoverModel" 23) ∈ xt2 := xt2_t (i := 761) (by decide +kernel) (by decide +kernel)
theorem tv_19 : (Cond.classLink "NameMoverLaw" 8 "NameMover") ∈ xt2 := xt2_t (i := 19) (by decide +kernel) (by decide +kernel)
theorem tv_23 : (Cond.code ⟨"NameMover", "<init>", "()V"⟩ prog_1_method_1_code 1 (none : Option FieldType)) ∈ xt2 := xt2_t (i := 23) (by decide +kernel) (by decide +kernel)
theorem tv_21 : (Cond.methodLink "NameMoverLaw" 67 ⟨"NameMover", "<init>", "()V"⟩) ∈ xt2 := xt2_t (i := 21) (by decide +kernel) (by decide +kernel)
theorem tv_22 : (Cond.instanceMethod ⟨"NameMover", "<init>", "()V"⟩) ∈ xt2 := xt2_t (i := 22) (by decide +kernel) (by decide +kernel)
theorem tv_760 : (Cond.classLink "NameMoverLaw" 68 "NameMoverModel") ∈ xt2 := xt2_t (i := 760) (by decide +kernel) (by decide +kernel)
theorem tv_6 : (Cond.initialized "NameMoverModel") ∈ xt2 := xt2_t (i := 6) (by decide +kernel) (by decide +kernel)
theorem tv_764 : (Cond.code ⟨"NameMoverModel", "<init>", "()V"⟩ prog_11_method_1_code 1 (none : Option FieldType)) ∈ xt2 := xt2_t (i := 764) (by decide +kernel) (by decide +kernel)
theorem tv_762 : (Cond.methodLink "NameMoverLaw" 70 ⟨"NameMoverModel", "<init>", "()V"⟩) ∈ xt2 := xt2_t (i := 762) (by decide +kernel) (by decide +kernel)
theorem tv_763 : (Cond.instanceMethod ⟨"NameMoverModel", "<init>", "()V"⟩) ∈ xt2 := xt2_t (i := 763) (by decide +kernel) (by decide +kernel)
theorem tw_92 : (Cond.methodLinkNest "NameMover" 18 ⟨"NameMover$ByteRow", "<init>", "()V"⟩ "NameMover") ∈ xtt := xtt_t (i := 92) (by decide +kernel) (by decide +kernel)
theorem tw_29 : (Cond.methodLinkNest "NameMover" 9 ⟨"NameMover$Store", "<init>", "()V"⟩ "NameMover") ∈ xtt := xtt_t (i := 29) (by decide +kernel) (by decide +kernel)
theorem xcond_any {a b : String} {A : Array Value} {s : State} (h : (Cond.not (.castable a b)).before A s = true) : (Cond.not (.castable a b)).before #[] s = true := by
  simp only [Cond.before, Cond.holds, Cond.value] at h ⊢
  exact h
theorem xcond_ls {a b c : String} {A : Array Value} {s : State} (h : (Cond.laysStatic a b c).before A s = true) : (Cond.laysStatic a b c).before #[] s = true := by
  simp only [Cond.before, Cond.holds, Cond.value] at h ⊢
  exact h
theorem xcond_rf {a b c : String} {A : Array Value} {s : State} (h : (Cond.isRef (.static a b c)).before A s = true) : (Cond.isRef (.static a b c)).before #[] s = true := by
  have e : (Term.static a b c).eval A s none [] s = (Term.static a b c).eval #[] s none [] s := by simp only [Term.eval]
  simp only [Cond.before, Cond.holds, Cond.value] at h ⊢
  rw [← e]
  exact h
theorem ra_eq {s : State} {c c' : ClassId} {ty : FieldType} (h : ty = .int ∨ ty = .long ∨ ty = .boolean) (h1 : va_RA s c ty) (h2 : va_RA s c' ty) : c' = c := by
  rcases h with rfl | rfl | rfl <;> exact Option.some.inj (Eq.trans (Eq.symm h2) h1)
theorem lo_flags {l : Launch} (h : l.flags = flags0) : xLo l := fun e he => by
  have h1 := he.2.2.2.2.1
  rw [h1]
  show l.stackTraces = false
  unfold Launch.stackTraces
  rw [h]
  decide +kernel
theorem xt2_l {w : Cond} (h : w ∈ xt2) : w ∈ lw_tbl := (List.mem_filter.mp h).1
theorem xtt_l {w : Cond} (h : w ∈ xtt) : w ∈ lw_tbl := (List.mem_filter.mp h).1
theorem xt2_goodL {c' : Cond} (hc : c' ∈ xt2) : GoodIn lw_tbl (c' :: xt2) := fun w hw => by
  have h : w ∈ xt2 := by
    rcases List.mem_cons.mp hw with rfl | h
    · exact hc
    · exact h
  exact ⟨xt2_l h, good_of_word (List.mem_filter.mp h).2⟩
theorem xt2_self {c w : Cond} (hc : c ∈ xt2) (h : w ∈ c :: xt2) : w ∈ xt2 := by
  rcases List.mem_cons.mp h with rfl | h
  · exact hc
  · exact h
theorem tin3_N : ∀ w ∈ u_ws RN FN 6, w ∈ lw_tbl := fun w hw => xt2_l (xt2_self tv_1 (tin2_N w hw))
theorem tin3_S : ∀ w ∈ u_ws RS FS 11, w ∈ lw_tbl := fun w hw => xt2_l (xt2_self tv_1 (tin2_S w hw))
theorem tin3_B : ∀ w ∈ u_ws RB FB 2, w ∈ lw_tbl := fun w hw => xt2_l (xt2_self tv_1 (tin2_B w hw))
theorem tin3_W : ∀ w ∈ u_ws RW FW 6, w ∈ lw_tbl := fun w hw => xt2_l (xt2_self tv_1 (tin2_W w hw))
theorem tin3_R : ∀ w ∈ u_ws RR FR 5, w ∈ lw_tbl := fun w hw => xt2_l (xt2_self tv_1 (tin2_R w hw))
theorem tin3_M : ∀ w ∈ u_ws RM FM 23, w ∈ lw_tbl := fun w hw => xt2_l (xt2_self tv_1 (tin2_M w hw))
def xQL : xQ := fun r _ n => r = .inl (some (.int 1)) ∧ n ≤ 512
def xloc (i : Int32) (a b : Option Value) (c : Option Value) : xL := [some (.ref 99), some (.ref 0), some (.ref 24), some (.ref 41), some (.int i), a, b, c]
def R_law : String := "NameMoverLaw"
def lw_P (b : Addr) (xs : List Int32) (args : Array Value) (s : State) : Prop := args = #[.ref b] ∧ s.IntsAt b xs ∧ xs.length ≤ 3584 ∧ (Jvm.Cond.and given_1 narrow_1).before args s = true
def lw_Q (_ : Array Value) (s : State) (o : Outcome) (t : State) : Prop := o = .returned (some (.int 1)) ∧ Framed s o t [] 1082 12140
def lw_Z (below : List Frame) (a : Array Value) (s : State) : State → Prop := fun t => ∃ o, t.status = .running ∧ Ended t below o ∧ lw_Q a s o t
/-- the law's own end, with 1 on the stack, nothing written that was there before, its room as the claim has it -/
theorem lw_ret {p : Program} {l : Launch} {e : Env} {s : State} {m : MethodId} {below : List Frame} {meth : Method} {c : Code} {b : Nat} (hx : p.tables.exec = Jvm.exec) (hb : c.code = code) (hr : meth.sig.returnType = ret) (hlocks : meth.locks = false) {pc : Nat} {H : Heap} {ls : Array Slot} (hdg : decode code pc = .ok (.ireturn, 1)) : W p l e room_1 s m #[Value.ref b] below meth c H [] 1082 12140 (lw_Z below #[Value.ref b] s) (F0 m pc ls [.int 1]) := by
  intro T hT X
  obtain ⟨fs, hret, hrun, hended, hW, hframe⟩ := X.leave (v := some (.int 1)) (hlocks := hlocks) (fun h => by rw [hr] at h; cases h)
  have hmeth' : T.vm.method? m = some meth := X.method'
  refine ⟨T.setFrames fs, ?_, .returned (some (.int 1)), hrun, hended, rfl, ⟨_, rfl⟩, hW, hframe⟩
  jvm_step X.here [X.here.top, hx, hb, hdg, hmeth', hr, ret, narrow_b1]
  (try refine ⟨rfl, ?_⟩); (try refine ⟨rfl, ?_⟩)
  first | (intro acts; rw [hret _ acts rfl rfl rfl]) | rw [hret _ _ rfl rfl rfl]
  exact Steps.refl _
/-- what holds at the law's entry: the machine, the code, the tables' words (any of lw_tbl by 'hts w (by decide +kernel)'), the script of L ints xs at the cell b, what the Statement gives of the start (any of its parts by flat_of_before) -/
def lw_At (p : Program) (s : State) (m : MethodId) (meth : Method) (c : Code) (b L : Nat) (xs : Nat → Int32) : Prop :=
  p.tables.exec = Jvm.exec ∧ c.code = code ∧ meth.sig.returnType = ret ∧ c.maxLocals = 8 ∧ s.vm.findClass R_law = some m.cls ∧ (∀ w ∈ lw_tbl, w.before #[Value.ref b] s = true) ∧ va_X b L xs s s.heap ∧ b < s.heap.size ∧ meth.locks = false ∧ (Jvm.Cond.and given_1 narrow_1).before #[Value.ref b] s = true
