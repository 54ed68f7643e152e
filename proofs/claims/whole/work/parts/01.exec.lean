-- AN ABSTRACT MACHINE over the kit's rows: cells are numbered, a reference is a cell's number; a method's body is a table of steps
abbrev xC : Type := (Nat × vp_A) ⊕ (Nat × List Value)
abbrev xH : Type := List xC
abbrev xL : Type := List (Option Value)
abbrev xF : Type := Nat × xL × List Value × xH × Nat
abbrev xR : Type := Option Value ⊕ Nat
abbrev xQ : Type := xR → xH → Nat → Prop
abbrev xOp : Type := xF → (xF → Prop) → xQ → Prop
abbrev xT : Type := List (Nat × xOp)
abbrev xP : Type := List Value → xH → xQ → Prop
def xlk : xT → Nat → Option xOp
  | [], _ => none
  | q :: t, pc => bif Nat.beq q.1 pc then some q.2 else xlk t pc
theorem xlk_mem : ∀ {tb : xT} {pc : Nat} {op : xOp}, xlk tb pc = some op → (pc, op) ∈ tb
  | [], _, _, h => by cases h
  | q :: t, pc, op, h => by
    unfold xlk at h
    cases hb : Nat.beq q.1 pc with
    | true =>
      rw [hb] at h
      have h1 : q.2 = op := by simpa using h
      have h2 : q.1 = pc := Nat.eq_of_beq_eq_true hb
      have : q = (pc, op) := by rw [← h1, ← h2]
      rw [this]
      exact List.mem_cons_self
    | false =>
      rw [hb] at h
      exact List.mem_cons_of_mem _ (xlk_mem h)
def xStep (tb : xT) (I : xF → Prop) (Q : xQ) (c : xF) : Prop := match xlk tb c.1 with
  | none => False
  | some op => op c I Q
/-- the least predicate that every step of the table carries on -/
def xG (tb : xT) (Q : xQ) (c : xF) : Prop := ∀ I : xF → Prop, (∀ (c' : xF) (J : xF → Prop), (∀ x, J x → I x) → xStep tb J Q c' → I c') → I c
theorem xG.step {tb : xT} {Q : xQ} {c : xF} (h : xStep tb (xG tb Q) Q c) : xG tb Q c := fun I hI => hI c _ (fun _ hx => hx I hI) h
/-- some steps at once, up to the cuts -/
def xgo (tb : xT) (Q : xQ) (cut : List Nat) : Nat → xF → Prop
  | 0, c => xG tb Q c
  | n + 1, c => bif cut.contains c.1 then xG tb Q c else xStep tb (xgo tb Q cut n) Q c
theorem xG.ofGo {tb : xT} {Q : xQ} {cut : List Nat} : ∀ (n : Nat) {c : xF}, xgo tb Q cut n c → xG tb Q c
  | 0, _, h => h
  | n + 1, c, h => by
    unfold xgo at h
    cases hb : cut.contains c.1 with
    | true => rw [hb] at h; exact h
    | false => rw [hb] at h; exact fun I hI => hI c _ (fun x hx => xG.ofGo n hx I hI) h
theorem xG.go {tb : xT} {Q : xQ} {c : xF} (cut : List Nat) (n : Nat) (h : xStep tb (xgo tb Q cut n) Q c) : xG tb Q c := fun I hI => hI c _ (fun x hx => xG.ofGo n hx I hI) h
theorem xG.mono {tb : xT} {Q : xQ} {c : xF} (h : xG tb Q c) : xG tb Q c := h
def xv (ρ : Nat → Nat) : Value → Value
  | .ref k => .ref (ρ k)
  | .int x => .int x
  | .long x => .long x
  | .float x => .float x
  | .double x => .double x
  | .null => .null
  | .retAddr x => .retAddr x
def xe (ρ : Nat → Nat) (cA : Nat → ClassId) : xC → va_E
  | .inl a => .inl (cA a.1, a.2)
  | .inr o => .inr (o.1, o.2.map (xv ρ))
def xw (ρ : Nat → Nat) (cA : Nat → ClassId) : Nat → xH → va_W
  | _, [] => []
  | i, c :: t => (ρ i, xe ρ cA c) :: xw ρ cA (i + 1) t
def xla (ρ : Nat → Nat) : Nat → xL → List (Nat × Value)
  | _, [] => []
  | i, none :: t => xla ρ (i + 1) t
  | i, some v :: t => (i, xv ρ v) :: xla ρ (i + 1) t
def xd : Option Value → Option Value
  | some v => bif Nat.beq v.category 2 then none else some v
  | none => none
def xset (i : Nat) (v : Value) : Nat → xL → xL
  | _, [] => []
  | j, o :: t => (bif Nat.beq j i then some v else bif Nat.beq (j + 1) i then xd o else o) :: xset i v (j + 1) t
def xset2 (i : Nat) (v : Value) : Nat → xL → xL
  | _, [] => []
  | j, o :: t => (bif Nat.beq j i then some v else bif Nat.beq j (i + 1) then none else bif Nat.beq (j + 1) i then xd o else o) :: xset2 i v (j + 1) t
def xcs (st : List Value) : Nat := (st.map fun v => v.category).sum
section XA
variable {ρ : Nat → Nat} {cA : Nat → ClassId}
theorem xv_cat (v : Value) : (xv ρ v).category = v.category := by cases v <;> rfl
theorem xcs_map (st : List Value) : ((st.map (xv ρ)).map fun v => v.category).sum = xcs st := by
  unfold xcs
  rw [List.map_map]
  congr 1
  exact List.map_congr_left fun v _ => xv_cat v
theorem xw_get : ∀ (h : xH) (i k : Nat), (xw ρ cA i h)[k]? = h[k]?.map (fun c => (ρ (i + k), xe ρ cA c))
  | [], i, k => by simp [xw]
  | c :: t, i, 0 => by simp [xw]
  | c :: t, i, k + 1 => by
    simp only [xw, List.getElem?_cons_succ]
    rw [xw_get t (i + 1) k, show i + 1 + k = i + (k + 1) by omega]
theorem xw_at {h : xH} {k : Nat} {c : xC} (e : h[k]? = some c) : (xw ρ cA 0 h)[k]? = some (ρ k, xe ρ cA c) := by
  rw [xw_get, e]; simp
theorem xw_set : ∀ (h : xH) (i k : Nat) (c : xC), (xw ρ cA i h).set k (ρ (i + k), xe ρ cA c) = xw ρ cA i (h.set k c)
  | [], i, k, c => by simp [xw]
  | d :: t, i, 0, c => by simp [xw]
  | d :: t, i, k + 1, c => by
    simp only [xw, List.set_cons_succ]
    rw [← xw_set t (i + 1) k c, show i + 1 + k = i + (k + 1) by omega]
theorem xw_set0 (h : xH) (k : Nat) (c : xC) : (xw ρ cA 0 h).set k (ρ k, xe ρ cA c) = xw ρ cA 0 (h.set k c) := by
  have := xw_set (ρ := ρ) (cA := cA) h 0 k c
  rwa [Nat.zero_add] at this
theorem xla_mem : ∀ (l : xL) (i : Nat) (q : Nat × Value), q ∈ xla ρ i l ↔ ∃ (k : Nat) (v : Value), l[k]? = some (some v) ∧ q = (i + k, xv ρ v)
  | [], i, q => by simp [xla]
  | none :: t, i, q => by
    simp only [xla]
    rw [xla_mem t (i + 1) q]
    constructor
    · rintro ⟨k, v, h1, h2⟩
      exact ⟨k + 1, v, by simpa using h1, by rw [h2, show i + 1 + k = i + (k + 1) by omega]⟩
    · rintro ⟨k, v, h1, h2⟩
      cases k with
      | zero => simp at h1
      | succ k => exact ⟨k, v, by simpa using h1, by rw [h2, show i + 1 + k = i + (k + 1) by omega]⟩
  | some w :: t, i, q => by
    simp only [xla, List.mem_cons]
    rw [xla_mem t (i + 1) q]
    constructor
    · rintro (h | ⟨k, v, h1, h2⟩)
      · exact ⟨0, w, by simp, by rw [h]; simp⟩
      · exact ⟨k + 1, v, by simpa using h1, by rw [h2, show i + 1 + k = i + (k + 1) by omega]⟩
    · rintro ⟨k, v, h1, h2⟩
      cases k with
      | zero =>
        have : w = v := by simpa using h1
        exact Or.inl (by rw [h2, this]; simp)
      | succ k => exact Or.inr ⟨k, v, by simpa using h1, by rw [h2, show i + 1 + k = i + (k + 1) by omega]⟩
theorem lv_subset {ls : Array Slot} {n : Nat} {a b : List (Nat × Value)} (h : lv_has ls n a) (hs : ∀ q ∈ b, q ∈ a) : lv_has ls n b := ⟨h.1, h.2.1, fun q hq => h.2.2 q (hs q hq)⟩
theorem xla_at {ls : Array Slot} {n : Nat} {l : xL} (h : lv_has ls n (xla ρ 0 l)) {i : Nat} {v : Value} (e : l[i]? = some (some v)) : ls[i]? = some (.val (xv ρ v)) :=
  h.2.2 (i, xv ρ v) ((xla_mem l 0 _).mpr ⟨i, v, e, by simp⟩)
theorem xset_get (i : Nat) (v : Value) : ∀ (l : xL) (j k : Nat), (xset i v j l)[k]? = l[k]?.map (fun o => bif Nat.beq (j + k) i then some v else bif Nat.beq (j + k + 1) i then xd o else o)
  | [], j, k => by simp [xset]
  | o :: t, j, 0 => by simp [xset]
  | o :: t, j, k + 1 => by
    simp only [xset, List.getElem?_cons_succ]
    rw [xset_get i v t (j + 1) k, show j + 1 + k = j + (k + 1) by omega]
theorem xset2_get (i : Nat) (v : Value) : ∀ (l : xL) (j k : Nat), (xset2 i v j l)[k]? = l[k]?.map (fun o => bif Nat.beq (j + k) i then some v else bif Nat.beq (j + k) (i + 1) then none else bif Nat.beq (j + k + 1) i then xd o else o)
  | [], j, k => by simp [xset2]
  | o :: t, j, 0 => by simp [xset2]
  | o :: t, j, k + 1 => by
    simp only [xset2, List.getElem?_cons_succ]
    rw [xset2_get i v t (j + 1) k, show j + 1 + k = j + (k + 1) by omega]
theorem xd_some {o : Option Value} {w : Value} (h : xd o = some w) : o = some w ∧ ¬ w.category = 2 := by
  cases o with
  | none => cases h
  | some u =>
    change (bif Nat.beq u.category 2 then none else some u) = some w at h
    cases hb : Nat.beq u.category 2 with
    | true => rw [hb] at h; cases h
    | false =>
      rw [hb] at h
      have hu : u = w := by simpa using h
      subst hu
      exact ⟨rfl, fun q => by rw [q] at hb; cases hb⟩
theorem beq_f {a b : Nat} (h : Nat.beq a b = false) : ¬ a = b := fun q => by subst q; rw [Nat.beq_refl] at h; cases h
theorem xset_lv {ls : Array Slot} {n : Nat} {l : xL} {i : Nat} {v : Value} (h : lv_has ls n ((i, xv ρ v) :: (xla ρ 0 l).filter (fun q => !(q.1 == i) && !(q.1 + 1 == i && q.2.category == 2)))) : lv_has ls n (xla ρ 0 (xset i v 0 l)) := by
  refine lv_subset h fun q hq => ?_
  obtain ⟨k, w, h1, rfl⟩ := (xla_mem _ 0 q).mp hq
  rw [xset_get] at h1
  cases hlk : l[k]? with
  | none => rw [hlk] at h1; cases h1
  | some o =>
    rw [hlk] at h1
    simp only [Option.map_some, Option.some.injEq, Nat.zero_add] at h1
    cases hb : Nat.beq k i with
    | true =>
      rw [hb] at h1
      have e1 : v = w := by simpa using h1
      have e2 : k = i := Nat.eq_of_beq_eq_true hb
      subst e1; subst e2
      simp
    | false =>
      rw [hb] at h1
      have hne : ¬ k = i := beq_f hb
      refine List.mem_cons_of_mem _ (List.mem_filter.mpr ?_)
      cases hc : Nat.beq (k + 1) i with
      | true =>
        rw [hc] at h1
        obtain ⟨rfl, hcat⟩ := xd_some (by simpa using h1)
        refine ⟨(xla_mem _ 0 _).mpr ⟨k, w, hlk, rfl⟩, ?_⟩
        simp [hne, xv_cat, hcat]
      | false =>
        rw [hc] at h1
        have e1 : o = some w := by simpa using h1
        subst e1
        refine ⟨(xla_mem _ 0 _).mpr ⟨k, w, hlk, rfl⟩, ?_⟩
        simp [hne, beq_f hc]
theorem xset2_lv {ls : Array Slot} {n : Nat} {l : xL} {i : Nat} {v : Value} (h : lv_has ls n ((i, xv ρ v) :: (xla ρ 0 l).filter (fun q => !(q.1 == i) && (!(q.1 == i + 1) && !(q.1 + 1 == i && q.2.category == 2))))) : lv_has ls n (xla ρ 0 (xset2 i v 0 l)) := by
  refine lv_subset h fun q hq => ?_
  obtain ⟨k, w, h1, rfl⟩ := (xla_mem _ 0 q).mp hq
  rw [xset2_get] at h1
  cases hlk : l[k]? with
  | none => rw [hlk] at h1; cases h1
  | some o =>
    rw [hlk] at h1
    simp only [Option.map_some, Option.some.injEq, Nat.zero_add] at h1
    cases hb : Nat.beq k i with
    | true =>
      rw [hb] at h1
      have e1 : v = w := by simpa using h1
      have e2 : k = i := Nat.eq_of_beq_eq_true hb
      subst e1; subst e2
      simp
    | false =>
      rw [hb] at h1
      have hne : ¬ k = i := beq_f hb
      refine List.mem_cons_of_mem _ (List.mem_filter.mpr ?_)
      cases hb2 : Nat.beq k (i + 1) with
      | true => rw [hb2] at h1; cases h1
      | false =>
        rw [hb2] at h1
        have hne2 : ¬ k = i + 1 := beq_f hb2
        cases hc : Nat.beq (k + 1) i with
        | true =>
          rw [hc] at h1
          obtain ⟨rfl, hcat⟩ := xd_some (by simpa using h1)
          refine ⟨(xla_mem _ 0 _).mpr ⟨k, w, hlk, rfl⟩, ?_⟩
          simp [hne, hne2, xv_cat, hcat]
        | false =>
          rw [hc] at h1
          have e1 : o = some w := by simpa using h1
          subst e1
          refine ⟨(xla_mem _ 0 _).mpr ⟨k, w, hlk, rfl⟩, ?_⟩
          simp [hne, hne2, beq_f hc]
end XA
def xty (cA : Nat → ClassId) : List (ClassId × FieldType) := [(cA 0, .int), (cA 1, .long), (cA 2, .boolean)]
/-- the names of what is thrown -/
def xEx : Nat → String
  | 0 => "java/lang/IllegalArgumentException"
  | 1 => "java/lang/IndexOutOfBoundsException"
  | 2 => "java/lang/IllegalStateException"
  | _ => "java/util/NoSuchElementException"
def xO (ρ : Nat → Nat) (r : xR) (o : Outcome) (s t : State) : Prop := match r with
  | .inl none => o = .returned none
  | .inl (some v) => o = .returned (some (xv ρ v))
  | .inr X => ∃ (a : Nat) (cell : Cell), o = .threw a ∧ t.heap[a]? = some cell ∧ (∀ k, cell.vm ≠ .statics k) ∧ s.vm.findClass (xEx X) = some cell.cls ∧ ∃ k, s.vm.classes[cell.cls]? = some k
def xEnd (k0 : Nat × Nat) (cl : List vw_C) (D : va_G) (cA : Nat → ClassId) (ρ : Nat → Nat) (A : Nat → Prop) (Q : xQ) (s : State) (o : Outcome) (t : State) : Prop :=
  ∃ (r : xR) (h : xH) (n : Nat), Q r h n ∧ xO ρ r o s t ∧ va_P D cl (xw ρ cA 0 h) t.heap ∧ va_D A (xw ρ cA 0 h) ∧ va_F A s t ∧ s.WarmedH t.vm ∧ ∃ L, s.sameButNew ({ t with vm := s.vm } : State) L (k0.1 + n) (k0.2 + 6 * n) ∧ ∀ q ∈ L, A q.base
def xMQ (k0 : Nat × Nat) (cl : List vw_C) (D : va_G) (cA : Nat → ClassId) (ρ : Nat → Nat) (A : Nat → Prop) (Q : xQ) (s : State) (below : List Frame) : State → Prop := fun t => ∃ o, t.status = .running ∧ Ended t below o ∧ xEnd k0 cl D cA ρ A Q s o t
/-- the two statics of Throwable that a throw reads -/
def xNC : List Cond := [.not (.castable "java/lang/IllegalArgumentException" "java/lang/IndexOutOfBoundsException"), .not (.castable "java/lang/IllegalArgumentException" "java/lang/IllegalStateException"), .not (.castable "java/lang/IllegalArgumentException" "java/util/NoSuchElementException"), .not (.castable "java/lang/IndexOutOfBoundsException" "java/lang/IllegalArgumentException"), .not (.castable "java/lang/IndexOutOfBoundsException" "java/lang/IllegalStateException"), .not (.castable "java/lang/IndexOutOfBoundsException" "java/util/NoSuchElementException"), .not (.castable "java/lang/IllegalStateException" "java/lang/IllegalArgumentException"), .not (.castable "java/lang/IllegalStateException" "java/lang/IndexOutOfBoundsException"), .not (.castable "java/lang/IllegalStateException" "java/util/NoSuchElementException"), .not (.castable "java/util/NoSuchElementException" "java/lang/IllegalArgumentException"), .not (.castable "java/util/NoSuchElementException" "java/lang/IndexOutOfBoundsException"), .not (.castable "java/util/NoSuchElementException" "java/lang/IllegalStateException")]
def xHs (U : State) : Prop := (∀ w ∈ xNC, w.before #[] U = true) ∧ ((Cond.laysStatic "java/lang/Throwable" "UNASSIGNED_STACK" "[Ljava/lang/StackTraceElement;").before #[] U = true ∧ (Cond.isRef (.static "java/lang/Throwable" "UNASSIGNED_STACK" "[Ljava/lang/StackTraceElement;")).before #[] U = true) ∧ (Cond.laysStatic "java/lang/Throwable" "SUPPRESSED_SENTINEL" "Ljava/util/List;").before #[] U = true ∧ (Cond.isRef (.static "java/lang/Throwable" "SUPPRESSED_SENTINEL" "Ljava/util/List;")).before #[] U = true
theorem ls_kept {C n d : String} {s U : State} {args args' : Array Value} (hvm : s.vm.Alike U.vm) (hk : ∀ (a : Nat) (cell : Cell), s.heap[a]? = some cell → cell.vm.isStatics = true → U.heap[a]? = some cell) (h : (Cond.laysStatic C n d).before args s = true) :
    (Cond.laysStatic C n d).before args' U = true ∧ ((Cond.isRef (.static C n d)).before args s = true → (Cond.isRef (.static C n d)).before args' U = true) := by
  obtain ⟨c, k, i, f, a, cell, hc, hi, hst, hsta, hcell, hiss, hcls, hlt, hty⟩ := Cond.laysStatic_spec h
  obtain ⟨k', hi', he⟩ := State.fieldFound?_setVm hvm hi
  have hi2 : U.fieldFound? C n d = some (c, k', i, f) := hi'
  have hc' : U.vm.findClass C = some c := by rw [hvm.findClass]; exact hc
  have hcell' := hk a cell hcell hiss
  have hsta' : k'.statics = some a := by rw [he]; exact hsta
  have hty' : k'.staticTypes[f.slot]? = some f.type := by rw [he]; exact hty
  refine ⟨by simp [Cond.before, Cond.holds, Cond.value, hc', hi2, hst, hsta', hcell', hiss, hcls, hlt, hty'], fun hr => ?_⟩
  have e1 : (Term.static C n d).eval args s none [] s = cell.slots[f.slot]? := by simp [Term.eval, State.fieldNamed?, hi, hst, hsta, hcell, hiss]
  have e2 : (Term.static C n d).eval args' U none [] U = cell.slots[f.slot]? := by simp [Term.eval, State.fieldNamed?, hi2, hst, hsta', hcell', hiss]
  simp only [Cond.before, Cond.holds, Cond.value] at hr ⊢
  rw [e2]
  rw [e1] at hr
  exact hr
theorem xNC_is : ∀ w ∈ xNC, ∃ a b, w = Cond.not (.castable a b) := by
  intro w hw
  simp only [xNC, List.mem_cons, List.not_mem_nil, or_false] at hw
  rcases hw with rfl | rfl | rfl | rfl | rfl | rfl | rfl | rfl | rfl | rfl | rfl | rfl <;> exact ⟨_, _, rfl⟩
theorem xNC_kept {s U : State} {args args' : Array Value} (hvm : s.vm.Alike U.vm) : ∀ w ∈ xNC, w.before args s = true → w.before args' U = true := by
  intro w hw h
  obtain ⟨a, b, rfl⟩ := xNC_is w hw
  have h1 := Cond.castAtom_setVm (args := args) hvm (.not (.castable a b)) rfl h
  simp only [Cond.before, Cond.holds, Cond.value, State.vm_setVm] at h1 ⊢
  exact h1
theorem xHs.kept {s U : State} (hvm : s.vm.Alike U.vm) (hk : ∀ (a : Nat) (cell : Cell), s.heap[a]? = some cell → cell.vm.isStatics = true → U.heap[a]? = some cell) (h : xHs s) : xHs U :=
  ⟨fun w hw => xNC_kept hvm w hw (h.1 w hw), ⟨(ls_kept hvm hk h.2.1.1).1, (ls_kept hvm hk h.2.1.1).2 h.2.1.2⟩, (ls_kept hvm hk h.2.2.1).1, (ls_kept hvm hk h.2.2.1).2 h.2.2.2⟩
theorem x_stat {A : Nat → Prop} {H0 H : Heap} {locs : List Loc} (hS : va_S A H0 H locs) (hns : ∀ q, A q → ∀ cell : Cell, H0[q]? = some cell → cell.vm.isStatics = false) : ∀ (a : Nat) (cell : Cell), H0[a]? = some cell → cell.vm.isStatics = true → H[a]? = some cell := fun a cell h1 h2 => by
  rw [hS.2.1 a (Array.getElem?_eq_some_iff.mp h1).1 (fun z => by rw [hns a z cell h1] at h2; cases h2)]
  exact h1
def xLo (l : Launch) : Prop := ∀ e, l.admits e → e.platform.stackTraces = false
def xCx (Ex : Code → State → (Nat → Nat) → (Nat → Prop) → Prop) (cl : List vw_C) (own : String) (Ts : List Cond) (cc : ByteArray) (nL : Nat) (ret : Option FieldType) (p : Program) (l : Launch) (s : State) (m : MethodId) (args : Array Value) (meth : Method) (c : Code) (D : va_G) (cA : Nat → ClassId) (ρ : Nat → Nat) (A : Nat → Prop) : Prop :=
  p.tables.exec = Jvm.exec ∧ c.code = cc ∧ c.maxLocals = nL ∧ meth.sig.returnType = ret ∧ meth.locks = false ∧ s.vm.findClass own = some m.cls ∧ (∀ w ∈ Ts, w.before args s = true) ∧ va_K D cl (xty cA) s ∧ (∀ q, s.heap.size ≤ q → A q) ∧ Ex c s ρ A ∧ xLo l ∧ (∀ q, A q → ∀ cell : Cell, s.heap[q]? = some cell → cell.vm.isStatics = false) ∧ xHs s
def xWW (k0 : Nat × Nat) (cl : List vw_C) (R : Room) (nL : Nat) (p : Program) (l : Launch) (e : Env) (s : State) (m : MethodId) (args : Array Value) (below : List Frame) (meth : Method) (c : Code) (D : va_G) (cA : Nat → ClassId) (ρ : Nat → Nat) (A : Nat → Prop) (Q : xQ) (x : xF) : Prop :=
  ∀ (H : Heap) (locs : List Loc) (ls : Array Slot), lv_has ls nL (xla ρ 0 x.2.1) → va_P D cl (xw ρ cA 0 x.2.2.2.1) H → va_D A (xw ρ cA 0 x.2.2.2.1) → va_S A s.heap H locs →
    W p l e R s m args below meth c H locs (k0.1 + x.2.2.2.2) (k0.2 + 6 * x.2.2.2.2) (xMQ k0 cl D cA ρ A Q s below) (F0 m x.1 ls (x.2.2.1.map (xv ρ)))
def x0 : Code → State → (Nat → Nat) → (Nat → Prop) → Prop := fun c _ _ _ => c.exceptionTable.isEmpty = true
theorem x0_e : ∀ c s ρ A, x0 c s ρ A → c.exceptionTable.isEmpty = true := fun _ _ _ _ h => h
def xSd (k0 : Nat × Nat) (Ex : Code → State → (Nat → Nat) → (Nat → Prop) → Prop) (cl : List vw_C) (own : String) (Ts : List Cond) (cc : ByteArray) (nL : Nat) (ret : Option FieldType) (R : Room) (q : Nat × xOp) : Prop :=
  ∀ (p : Program) (l : Launch) (e : Env) (s : State) (m : MethodId) (args : Array Value) (below : List Frame) (meth : Method) (c : Code) (D : va_G) (cA : Nat → ClassId) (ρ : Nat → Nat) (A : Nat → Prop), xCx Ex cl own Ts cc nL ret p l s m args meth c D cA ρ A →
    ∀ (Q : xQ) (J : xF → Prop) (x : xF), x.1 = q.1 → (∀ y, J y → xWW k0 cl R nL p l e s m args below meth c D cA ρ A Q y) → q.2 x J Q → xWW k0 cl R nL p l e s m args below meth c D cA ρ A Q x
theorem xSd.all {k0 : Nat × Nat} {Ex : Code → State → (Nat → Nat) → (Nat → Prop) → Prop} {cl : List vw_C} {own : String} {Ts : List Cond} {cc : ByteArray} {nL : Nat} {ret : Option FieldType} {R : Room} {tb : xT} (hv : ∀ q ∈ tb, xSd k0 Ex cl own Ts cc nL ret R q)
    {p : Program} {l : Launch} {e : Env} {s : State} {m : MethodId} {args : Array Value} {below : List Frame} {meth : Method} {c : Code} {D : va_G} {cA : Nat → ClassId} {ρ : Nat → Nat} {A : Nat → Prop} (X : xCx Ex cl own Ts cc nL ret p l s m args meth c D cA ρ A)
    {Q : xQ} {x : xF} (h : xG tb Q x) : xWW k0 cl R nL p l e s m args below meth c D cA ρ A Q x := by
  refine h _ fun c' J hJ hs => ?_
  unfold xStep at hs
  split at hs
  · exact hs.elim
  · rename_i op hop
    exact hv _ (xlk_mem hop) p l e s m args below meth c D cA ρ A X Q J c' rfl hJ hs
theorem xval_nil {k0 : Nat × Nat} {Ex : Code → State → (Nat → Nat) → (Nat → Prop) → Prop} {cl : List vw_C} {own : String} {Ts : List Cond} {cc : ByteArray} {nL : Nat} {ret : Option FieldType} {R : Room} : ∀ q ∈ ([] : xT), xSd k0 Ex cl own Ts cc nL ret R q := fun q h => by cases h
theorem xval {k0 : Nat × Nat} {Ex : Code → State → (Nat → Nat) → (Nat → Prop) → Prop} {cl : List vw_C} {own : String} {Ts : List Cond} {cc : ByteArray} {nL : Nat} {ret : Option FieldType} {R : Room} {pc : Nat} {op : xOp} {t : xT} (h : xSd k0 Ex cl own Ts cc nL ret R (pc, op)) (ht : ∀ q ∈ t, xSd k0 Ex cl own Ts cc nL ret R q) : ∀ q ∈ (pc, op) :: t, xSd k0 Ex cl own Ts cc nL ret R q := fun q hq => by
  rcases List.mem_cons.mp hq with rfl | hq
  · exact h
  · exact ht q hq

section XS
variable {k0 : Nat × Nat} {Ex : Code → State → (Nat → Nat) → (Nat → Prop) → Prop} {cl : List vw_C} {own : String} {Ts : List Cond} {cc : ByteArray} {nL : Nat} {ret : Option FieldType} {R : Room} {pc : Nat}

def o_i (v : Int32) (len : Nat) : xOp := fun x k _ => k (x.1 + len, x.2.1, .int v :: x.2.2.1, x.2.2.2.1, x.2.2.2.2)
def o_l (v : Int64) (len : Nat) : xOp := fun x k _ => k (x.1 + len, x.2.1, .long v :: x.2.2.1, x.2.2.2.1, x.2.2.2.2)
theorem s_iconst {z : Int} {v : Int32} (hd : decode cc pc = .ok (.iconst z, 1)) (hv : Int32.ofInt z = v) : xSd k0 Ex cl own Ts cc nL ret R (pc, o_i v 1) := by
  intro p l e s m args below meth c D cA ρ A X Q J x hpc hJ ho H locs ls hl hP hD hS
  obtain ⟨pc', L, st, h, n⟩ := x
  obtain rfl : pc' = pc := hpc
  exact lv_iconst X.1 X.2.1 hd hv (hJ _ ho H locs ls hl hP hD hS)
theorem s_bipush {z : Int} {v : Int32} (hd : decode cc pc = .ok (.bipush z, 2)) (hv : (Int8.ofInt z).toInt32 = v) : xSd k0 Ex cl own Ts cc nL ret R (pc, o_i v 2) := by
  intro p l e s m args below meth c D cA ρ A X Q J x hpc hJ ho H locs ls hl hP hD hS
  obtain ⟨pc', L, st, h, n⟩ := x
  obtain rfl : pc' = pc := hpc
  exact lv_bipush X.1 X.2.1 hd hv (hJ _ ho H locs ls hl hP hD hS)
theorem s_sipush {z : Int} {v : Int32} (hd : decode cc pc = .ok (.sipush z, 3)) (hv : (Int16.ofInt z).toInt32 = v) : xSd k0 Ex cl own Ts cc nL ret R (pc, o_i v 3) := by
  intro p l e s m args below meth c D cA ρ A X Q J x hpc hJ ho H locs ls hl hP hD hS
  obtain ⟨pc', L, st, h, n⟩ := x
  obtain rfl : pc' = pc := hpc
  exact lv_sipush X.1 X.2.1 hd hv (hJ _ ho H locs ls hl hP hD hS)
theorem s_lconst {z : Fin 2} {v : Int64} (hd : decode cc pc = .ok (.lconst z, 1)) (hv : Int64.ofNat (z : Nat) = v) : xSd k0 Ex cl own Ts cc nL ret R (pc, o_l v 1) := by
  intro p l e s m args below meth c D cA ρ A X Q J x hpc hJ ho H locs ls hl hP hD hS
  obtain ⟨pc', L, st, h, n⟩ := x
  obtain rfl : pc' = pc := hpc
  exact lv_lconst X.1 X.2.1 hd hv (hJ _ ho H locs ls hl hP hD hS)
theorem s_ldc {i : Nat} {v : Int32} (hd : decode cc pc = .ok (.ldc i, 2)) (hw : Jvm.Cond.constant own i v ∈ Ts) : xSd k0 Ex cl own Ts cc nL ret R (pc, o_i v 2) := by
  intro p l e s m args below meth c D cA ρ A X Q J x hpc hJ ho H locs ls hl hP hD hS
  obtain ⟨pc', L, st, h, n⟩ := x
  obtain rfl : pc' = pc := hpc
  exact lv_ldc X.1 X.2.1 X.2.2.2.2.2.1 (X.2.2.2.2.2.2.1 _ hw) hd (hJ _ ho H locs ls hl hP hD hS)
theorem s_ldc2 {i : Nat} {v : Int64} (hd : decode cc pc = .ok (.ldc2_w i, 3)) (hw : Jvm.Cond.constantLong own i v ∈ Ts) : xSd k0 Ex cl own Ts cc nL ret R (pc, o_l v 3) := by
  intro p l e s m args below meth c D cA ρ A X Q J x hpc hJ ho H locs ls hl hP hD hS
  obtain ⟨pc', L, st, h, n⟩ := x
  obtain rfl : pc' = pc := hpc
  exact lv_ldc2 X.1 X.2.1 X.2.2.2.2.2.1 (X.2.2.2.2.2.2.1 _ hw) hd (hJ _ ho H locs ls hl hP hD hS)
def o_iload (i len : Nat) : xOp := fun x k _ => match x.2.1[i]? with
  | some (some (.int v)) => k (x.1 + len, x.2.1, .int v :: x.2.2.1, x.2.2.2.1, x.2.2.2.2)
  | _ => False
theorem s_iload_n {f : Fin 4} {i : Nat} (hd : decode cc pc = .ok (.iload_n f, 1)) (hi : (f : Nat) = i) : xSd k0 Ex cl own Ts cc nL ret R (pc, o_iload i 1) := by
  intro p l e s m args below meth c D cA ρ A X Q J x hpc hJ ho H locs ls hl hP hD hS
  obtain ⟨pc', L, st, h, n⟩ := x
  obtain rfl : pc' = pc := hpc
  dsimp only [o_iload] at ho
  split at ho
  · rename_i v hv
    exact lv_iload_n X.1 X.2.1 hd hi (xla_at hl hv) (hJ _ ho H locs ls hl hP hD hS)
  · exact ho.elim
theorem s_iload {i : Nat} (hd : decode cc pc = .ok (.iload i, 2)) : xSd k0 Ex cl own Ts cc nL ret R (pc, o_iload i 2) := by
  intro p l e s m args below meth c D cA ρ A X Q J x hpc hJ ho H locs ls hl hP hD hS
  obtain ⟨pc', L, st, h, n⟩ := x
  obtain rfl : pc' = pc := hpc
  dsimp only [o_iload] at ho
  split at ho
  · rename_i v hv
    exact lv_iload X.1 X.2.1 hd (xla_at hl hv) (hJ _ ho H locs ls hl hP hD hS)
  · exact ho.elim
def o_lload (i len : Nat) : xOp := fun x k _ => match x.2.1[i]? with
  | some (some (.long v)) => k (x.1 + len, x.2.1, .long v :: x.2.2.1, x.2.2.2.1, x.2.2.2.2)
  | _ => False
theorem s_lload_n {f : Fin 4} {i : Nat} (hd : decode cc pc = .ok (.lload_n f, 1)) (hi : (f : Nat) = i) : xSd k0 Ex cl own Ts cc nL ret R (pc, o_lload i 1) := by
  intro p l e s m args below meth c D cA ρ A X Q J x hpc hJ ho H locs ls hl hP hD hS
  obtain ⟨pc', L, st, h, n⟩ := x
  obtain rfl : pc' = pc := hpc
  dsimp only [o_lload] at ho
  split at ho
  · rename_i v hv
    exact lv_lload_n X.1 X.2.1 hd hi (xla_at hl hv) (hJ _ ho H locs ls hl hP hD hS)
  · exact ho.elim
theorem s_lload {i : Nat} (hd : decode cc pc = .ok (.lload i, 2)) : xSd k0 Ex cl own Ts cc nL ret R (pc, o_lload i 2) := by
  intro p l e s m args below meth c D cA ρ A X Q J x hpc hJ ho H locs ls hl hP hD hS
  obtain ⟨pc', L, st, h, n⟩ := x
  obtain rfl : pc' = pc := hpc
  dsimp only [o_lload] at ho
  split at ho
  · rename_i v hv
    exact lv_lload X.1 X.2.1 hd (xla_at hl hv) (hJ _ ho H locs ls hl hP hD hS)
  · exact ho.elim
def o_aload (i len : Nat) : xOp := fun x k _ => match x.2.1[i]? with
  | some (some (.ref v)) => k (x.1 + len, x.2.1, .ref v :: x.2.2.1, x.2.2.2.1, x.2.2.2.2)
  | _ => False
theorem s_aload_n {f : Fin 4} {i : Nat} (hd : decode cc pc = .ok (.aload_n f, 1)) (hi : (f : Nat) = i) : xSd k0 Ex cl own Ts cc nL ret R (pc, o_aload i 1) := by
  intro p l e s m args below meth c D cA ρ A X Q J x hpc hJ ho H locs ls hl hP hD hS
  obtain ⟨pc', L, st, h, n⟩ := x
  obtain rfl : pc' = pc := hpc
  dsimp only [o_aload] at ho
  split at ho
  · rename_i v hv
    exact lv_aload_n X.1 X.2.1 hd hi (xla_at hl hv) (hJ _ ho H locs ls hl hP hD hS)
  · exact ho.elim
theorem s_aload {i : Nat} (hd : decode cc pc = .ok (.aload i, 2)) : xSd k0 Ex cl own Ts cc nL ret R (pc, o_aload i 2) := by
  intro p l e s m args below meth c D cA ρ A X Q J x hpc hJ ho H locs ls hl hP hD hS
  obtain ⟨pc', L, st, h, n⟩ := x
  obtain rfl : pc' = pc := hpc
  dsimp only [o_aload] at ho
  split at ho
  · rename_i v hv
    exact lv_aload X.1 X.2.1 hd (xla_at hl hv) (hJ _ ho H locs ls hl hP hD hS)
  · exact ho.elim
def o_istore (i len : Nat) : xOp := fun x k _ => match x.2.2.1 with
  | .int v :: r => k (x.1 + len, xset i (.int v) 0 x.2.1, r, x.2.2.2.1, x.2.2.2.2)
  | _ => False
theorem s_istore_n {f : Fin 4} {i : Nat} (hd : decode cc pc = .ok (.istore_n f, 1)) (hi : (f : Nat) = i) (hn : i < nL) : xSd k0 Ex cl own Ts cc nL ret R (pc, o_istore i 1) := by
  intro p l e s m args below meth c D cA ρ A X Q J x hpc hJ ho H locs ls hl hP hD hS
  obtain ⟨pc', L, st, h, n⟩ := x
  obtain rfl : pc' = pc := hpc
  dsimp only [o_istore] at ho
  split at ho
  · rename_i v r
    exact lv_istore_n X.1 X.2.1 hd hi hl hn rfl (fun ls' hl' => hJ _ ho H locs ls' (xset_lv (v := .int v) hl') hP hD hS)
  · exact ho.elim
theorem s_istore {i : Nat} (hd : decode cc pc = .ok (.istore i, 2)) (hn : i < nL) : xSd k0 Ex cl own Ts cc nL ret R (pc, o_istore i 2) := by
  intro p l e s m args below meth c D cA ρ A X Q J x hpc hJ ho H locs ls hl hP hD hS
  obtain ⟨pc', L, st, h, n⟩ := x
  obtain rfl : pc' = pc := hpc
  dsimp only [o_istore] at ho
  split at ho
  · rename_i v r
    exact lv_istore X.1 X.2.1 hd hl hn rfl (fun ls' hl' => hJ _ ho H locs ls' (xset_lv (v := .int v) hl') hP hD hS)
  · exact ho.elim
def o_astore (i len : Nat) : xOp := fun x k _ => match x.2.2.1 with
  | .ref v :: r => k (x.1 + len, xset i (.ref v) 0 x.2.1, r, x.2.2.2.1, x.2.2.2.2)
  | _ => False
theorem s_astore_n {f : Fin 4} {i : Nat} (hd : decode cc pc = .ok (.astore_n f, 1)) (hi : (f : Nat) = i) (hn : i < nL) : xSd k0 Ex cl own Ts cc nL ret R (pc, o_astore i 1) := by
  intro p l e s m args below meth c D cA ρ A X Q J x hpc hJ ho H locs ls hl hP hD hS
  obtain ⟨pc', L, st, h, n⟩ := x
  obtain rfl : pc' = pc := hpc
  dsimp only [o_astore] at ho
  split at ho
  · rename_i v r
    exact lv_astore_n X.1 X.2.1 hd hi hl hn rfl (fun ls' hl' => hJ _ ho H locs ls' (xset_lv (v := .ref v) hl') hP hD hS)
  · exact ho.elim
theorem s_astore {i : Nat} (hd : decode cc pc = .ok (.astore i, 2)) (hn : i < nL) : xSd k0 Ex cl own Ts cc nL ret R (pc, o_astore i 2) := by
  intro p l e s m args below meth c D cA ρ A X Q J x hpc hJ ho H locs ls hl hP hD hS
  obtain ⟨pc', L, st, h, n⟩ := x
  obtain rfl : pc' = pc := hpc
  dsimp only [o_astore] at ho
  split at ho
  · rename_i v r
    exact lv_astore X.1 X.2.1 hd hl hn rfl (fun ls' hl' => hJ _ ho H locs ls' (xset_lv (v := .ref v) hl') hP hD hS)
  · exact ho.elim
def o_lstore (i len : Nat) : xOp := fun x k _ => match x.2.2.1 with
  | .long v :: r => k (x.1 + len, xset2 i (.long v) 0 x.2.1, r, x.2.2.2.1, x.2.2.2.2)
  | _ => False
theorem s_lstore_n {f : Fin 4} {i : Nat} (hd : decode cc pc = .ok (.lstore_n f, 1)) (hi : (f : Nat) = i) (hn : i + 1 < nL) : xSd k0 Ex cl own Ts cc nL ret R (pc, o_lstore i 1) := by
  intro p l e s m args below meth c D cA ρ A X Q J x hpc hJ ho H locs ls hl hP hD hS
  obtain ⟨pc', L, st, h, n⟩ := x
  obtain rfl : pc' = pc := hpc
  dsimp only [o_lstore] at ho
  split at ho
  · rename_i v r
    exact lv_lstore_n X.1 X.2.1 hd hi hl hn rfl (fun ls' hl' => hJ _ ho H locs ls' (xset2_lv (v := .long v) hl') hP hD hS)
  · exact ho.elim
theorem s_lstore {i : Nat} (hd : decode cc pc = .ok (.lstore i, 2)) (hn : i + 1 < nL) : xSd k0 Ex cl own Ts cc nL ret R (pc, o_lstore i 2) := by
  intro p l e s m args below meth c D cA ρ A X Q J x hpc hJ ho H locs ls hl hP hD hS
  obtain ⟨pc', L, st, h, n⟩ := x
  obtain rfl : pc' = pc := hpc
  dsimp only [o_lstore] at ho
  split at ho
  · rename_i v r
    exact lv_lstore X.1 X.2.1 hd hl hn rfl (fun ls' hl' => hJ _ ho H locs ls' (xset2_lv (v := .long v) hl') hP hD hS)
  · exact ho.elim
def o_iinc (i : Nat) (z : Int32) : xOp := fun x k _ => match x.2.1[i]? with
  | some (some (.int v)) => k (x.1 + 3, xset i (.int (v + z)) 0 x.2.1, x.2.2.1, x.2.2.2.1, x.2.2.2.2)
  | _ => False
theorem s_iinc {i : Nat} {z : Int} {w : Int32} (hd : decode cc pc = .ok (.iinc i z, 3)) (hw : Int32.ofInt z = w) (hn : i < nL) : xSd k0 Ex cl own Ts cc nL ret R (pc, o_iinc i w) := by
  intro p l e s m args below meth c D cA ρ A X Q J x hpc hJ ho H locs ls hl hP hD hS
  obtain ⟨pc', L, st, h, n⟩ := x
  obtain rfl : pc' = pc := hpc
  subst hw
  dsimp only [o_iinc] at ho
  split at ho
  · rename_i v hv
    obtain ⟨j, hj⟩ := List.getElem?_of_mem ((xla_mem (ρ := ρ) L 0 (i, .int v)).mpr ⟨i, .int v, hv, by simp [xv]⟩)
    exact lv_iinc X.1 X.2.1 hd hl hj rfl hn rfl (fun ls' hl' => hJ _ ho H locs ls' (xset_lv (v := .int _) hl') hP hD hS)
  · exact ho.elim
def o_ii (f : Int32 → Int32 → Int32) : xOp := fun x k _ => match x.2.2.1 with
  | .int b :: .int a :: r => k (x.1 + 1, x.2.1, .int (f a b) :: r, x.2.2.2.1, x.2.2.2.2)
  | _ => False
def o_ll (f : Int64 → Int64 → Int64) : xOp := fun x k _ => match x.2.2.1 with
  | .long b :: .long a :: r => k (x.1 + 1, x.2.1, .long (f a b) :: r, x.2.2.2.1, x.2.2.2.2)
  | _ => False
theorem s_iadd (hd : decode cc pc = .ok (.iadd, 1)) : xSd k0 Ex cl own Ts cc nL ret R (pc, o_ii (fun a b => a + b)) := by
  intro p l e s m args below meth c D cA ρ A X Q J x hpc hJ ho H locs ls hl hP hD hS
  obtain ⟨pc', L, st, h, n⟩ := x
  obtain rfl : pc' = pc := hpc
  dsimp only [o_ii] at ho
  split at ho
  · rename_i b a r
    exact lv_iadd X.1 X.2.1 hd (hJ _ ho H locs ls hl hP hD hS)
  · exact ho.elim
theorem s_isub (hd : decode cc pc = .ok (.isub, 1)) : xSd k0 Ex cl own Ts cc nL ret R (pc, o_ii (fun a b => a - b)) := by
  intro p l e s m args below meth c D cA ρ A X Q J x hpc hJ ho H locs ls hl hP hD hS
  obtain ⟨pc', L, st, h, n⟩ := x
  obtain rfl : pc' = pc := hpc
  dsimp only [o_ii] at ho
  split at ho
  · rename_i b a r
    exact lv_isub X.1 X.2.1 hd (hJ _ ho H locs ls hl hP hD hS)
  · exact ho.elim
theorem s_imul (hd : decode cc pc = .ok (.imul, 1)) : xSd k0 Ex cl own Ts cc nL ret R (pc, o_ii (fun a b => a * b)) := by
  intro p l e s m args below meth c D cA ρ A X Q J x hpc hJ ho H locs ls hl hP hD hS
  obtain ⟨pc', L, st, h, n⟩ := x
  obtain rfl : pc' = pc := hpc
  dsimp only [o_ii] at ho
  split at ho
  · rename_i b a r
    exact lv_imul X.1 X.2.1 hd (hJ _ ho H locs ls hl hP hD hS)
  · exact ho.elim
theorem s_iand (hd : decode cc pc = .ok (.iand, 1)) : xSd k0 Ex cl own Ts cc nL ret R (pc, o_ii (fun a b => a &&& b)) := by
  intro p l e s m args below meth c D cA ρ A X Q J x hpc hJ ho H locs ls hl hP hD hS
  obtain ⟨pc', L, st, h, n⟩ := x
  obtain rfl : pc' = pc := hpc
  dsimp only [o_ii] at ho
  split at ho
  · rename_i b a r
    exact lv_iand X.1 X.2.1 hd (hJ _ ho H locs ls hl hP hD hS)
  · exact ho.elim
theorem s_ior (hd : decode cc pc = .ok (.ior, 1)) : xSd k0 Ex cl own Ts cc nL ret R (pc, o_ii (fun a b => a ||| b)) := by
  intro p l e s m args below meth c D cA ρ A X Q J x hpc hJ ho H locs ls hl hP hD hS
  obtain ⟨pc', L, st, h, n⟩ := x
  obtain rfl : pc' = pc := hpc
  dsimp only [o_ii] at ho
  split at ho
  · rename_i b a r
    exact lv_ior X.1 X.2.1 hd (hJ _ ho H locs ls hl hP hD hS)
  · exact ho.elim
theorem s_ixor (hd : decode cc pc = .ok (.ixor, 1)) : xSd k0 Ex cl own Ts cc nL ret R (pc, o_ii (fun a b => a ^^^ b)) := by
  intro p l e s m args below meth c D cA ρ A X Q J x hpc hJ ho H locs ls hl hP hD hS
  obtain ⟨pc', L, st, h, n⟩ := x
  obtain rfl : pc' = pc := hpc
  dsimp only [o_ii] at ho
  split at ho
  · rename_i b a r
    exact lv_ixor X.1 X.2.1 hd (hJ _ ho H locs ls hl hP hD hS)
  · exact ho.elim
theorem s_ishl (hd : decode cc pc = .ok (.ishl, 1)) : xSd k0 Ex cl own Ts cc nL ret R (pc, o_ii (fun a b => a <<< (b &&& 31))) := by
  intro p l e s m args below meth c D cA ρ A X Q J x hpc hJ ho H locs ls hl hP hD hS
  obtain ⟨pc', L, st, h, n⟩ := x
  obtain rfl : pc' = pc := hpc
  dsimp only [o_ii] at ho
  split at ho
  · rename_i b a r
    exact lv_ishl X.1 X.2.1 hd (hJ _ ho H locs ls hl hP hD hS)
  · exact ho.elim
theorem s_ishr (hd : decode cc pc = .ok (.ishr, 1)) : xSd k0 Ex cl own Ts cc nL ret R (pc, o_ii (fun a b => a >>> (b &&& 31))) := by
  intro p l e s m args below meth c D cA ρ A X Q J x hpc hJ ho H locs ls hl hP hD hS
  obtain ⟨pc', L, st, h, n⟩ := x
  obtain rfl : pc' = pc := hpc
  dsimp only [o_ii] at ho
  split at ho
  · rename_i b a r
    exact lv_ishr X.1 X.2.1 hd (hJ _ ho H locs ls hl hP hD hS)
  · exact ho.elim
theorem s_ladd (hd : decode cc pc = .ok (.ladd, 1)) : xSd k0 Ex cl own Ts cc nL ret R (pc, o_ll (fun a b => a + b)) := by
  intro p l e s m args below meth c D cA ρ A X Q J x hpc hJ ho H locs ls hl hP hD hS
  obtain ⟨pc', L, st, h, n⟩ := x
  obtain rfl : pc' = pc := hpc
  dsimp only [o_ll] at ho
  split at ho
  · rename_i b a r
    exact lv_ladd X.1 X.2.1 hd (hJ _ ho H locs ls hl hP hD hS)
  · exact ho.elim
theorem s_lsub (hd : decode cc pc = .ok (.lsub, 1)) : xSd k0 Ex cl own Ts cc nL ret R (pc, o_ll (fun a b => a - b)) := by
  intro p l e s m args below meth c D cA ρ A X Q J x hpc hJ ho H locs ls hl hP hD hS
  obtain ⟨pc', L, st, h, n⟩ := x
  obtain rfl : pc' = pc := hpc
  dsimp only [o_ll] at ho
  split at ho
  · rename_i b a r
    exact lv_lsub X.1 X.2.1 hd (hJ _ ho H locs ls hl hP hD hS)
  · exact ho.elim
theorem s_lmul (hd : decode cc pc = .ok (.lmul, 1)) : xSd k0 Ex cl own Ts cc nL ret R (pc, o_ll (fun a b => a * b)) := by
  intro p l e s m args below meth c D cA ρ A X Q J x hpc hJ ho H locs ls hl hP hD hS
  obtain ⟨pc', L, st, h, n⟩ := x
  obtain rfl : pc' = pc := hpc
  dsimp only [o_ll] at ho
  split at ho
  · rename_i b a r
    exact lv_lmul X.1 X.2.1 hd (hJ _ ho H locs ls hl hP hD hS)
  · exact ho.elim
theorem s_land (hd : decode cc pc = .ok (.land, 1)) : xSd k0 Ex cl own Ts cc nL ret R (pc, o_ll (fun a b => a &&& b)) := by
  intro p l e s m args below meth c D cA ρ A X Q J x hpc hJ ho H locs ls hl hP hD hS
  obtain ⟨pc', L, st, h, n⟩ := x
  obtain rfl : pc' = pc := hpc
  dsimp only [o_ll] at ho
  split at ho
  · rename_i b a r
    exact lv_land X.1 X.2.1 hd (hJ _ ho H locs ls hl hP hD hS)
  · exact ho.elim
theorem s_lor (hd : decode cc pc = .ok (.lor, 1)) : xSd k0 Ex cl own Ts cc nL ret R (pc, o_ll (fun a b => a ||| b)) := by
  intro p l e s m args below meth c D cA ρ A X Q J x hpc hJ ho H locs ls hl hP hD hS
  obtain ⟨pc', L, st, h, n⟩ := x
  obtain rfl : pc' = pc := hpc
  dsimp only [o_ll] at ho
  split at ho
  · rename_i b a r
    exact lv_lor X.1 X.2.1 hd (hJ _ ho H locs ls hl hP hD hS)
  · exact ho.elim
theorem s_lxor (hd : decode cc pc = .ok (.lxor, 1)) : xSd k0 Ex cl own Ts cc nL ret R (pc, o_ll (fun a b => a ^^^ b)) := by
  intro p l e s m args below meth c D cA ρ A X Q J x hpc hJ ho H locs ls hl hP hD hS
  obtain ⟨pc', L, st, h, n⟩ := x
  obtain rfl : pc' = pc := hpc
  dsimp only [o_ll] at ho
  split at ho
  · rename_i b a r
    exact lv_lxor X.1 X.2.1 hd (hJ _ ho H locs ls hl hP hD hS)
  · exact ho.elim
def o_dr (f : Int32 → Int32 → Int32) : xOp := fun x k _ => match x.2.2.1 with
  | .int b :: .int a :: r => ¬ b = 0 ∧ k (x.1 + 1, x.2.1, .int (f a b) :: r, x.2.2.2.1, x.2.2.2.2)
  | _ => False
theorem s_idiv (hd : decode cc pc = .ok (.idiv, 1)) : xSd k0 Ex cl own Ts cc nL ret R (pc, o_dr (fun a b => a / b)) := by
  intro p l e s m args below meth c D cA ρ A X Q J x hpc hJ ho H locs ls hl hP hD hS
  obtain ⟨pc', L, st, h, n⟩ := x
  obtain rfl : pc' = pc := hpc
  dsimp only [o_dr] at ho
  split at ho
  · rename_i b a r
    exact lv_idiv X.1 X.2.1 hd ho.1 (hJ _ ho.2 H locs ls hl hP hD hS)
  · exact ho.elim
theorem s_irem (hd : decode cc pc = .ok (.irem, 1)) : xSd k0 Ex cl own Ts cc nL ret R (pc, o_dr (fun a b => a - a / b * b)) := by
  intro p l e s m args below meth c D cA ρ A X Q J x hpc hJ ho H locs ls hl hP hD hS
  obtain ⟨pc', L, st, h, n⟩ := x
  obtain rfl : pc' = pc := hpc
  dsimp only [o_dr] at ho
  split at ho
  · rename_i b a r
    exact lv_irem X.1 X.2.1 hd ho.1 (hJ _ ho.2 H locs ls hl hP hD hS)
  · exact ho.elim
def xushr (a : Int64) (b : Int32) : Int64 := (a.toUInt64 >>> (b.toInt64.toUInt64 &&& Int64.toUInt64 63)).toInt64
def xshl (a : Int64) (b : Int32) : Int64 := a <<< (b.toInt64 &&& 63)
def o_li (f : Int64 → Int32 → Int64) : xOp := fun x k _ => match x.2.2.1 with
  | .int b :: .long a :: r => k (x.1 + 1, x.2.1, .long (f a b) :: r, x.2.2.2.1, x.2.2.2.2)
  | _ => False
theorem s_lushr (hd : decode cc pc = .ok (.lushr, 1)) : xSd k0 Ex cl own Ts cc nL ret R (pc, o_li xushr) := by
  intro p l e s m args below meth c D cA ρ A X Q J x hpc hJ ho H locs ls hl hP hD hS
  obtain ⟨pc', L, st, h, n⟩ := x
  obtain rfl : pc' = pc := hpc
  dsimp only [o_li] at ho
  split at ho
  · rename_i b a r
    exact lv_lushr X.1 X.2.1 hd rfl (hJ _ ho H locs ls hl hP hD hS)
  · exact ho.elim
theorem s_lshl (hd : decode cc pc = .ok (.lshl, 1)) : xSd k0 Ex cl own Ts cc nL ret R (pc, o_li xshl) := by
  intro p l e s m args below meth c D cA ρ A X Q J x hpc hJ ho H locs ls hl hP hD hS
  obtain ⟨pc', L, st, h, n⟩ := x
  obtain rfl : pc' = pc := hpc
  dsimp only [o_li] at ho
  split at ho
  · rename_i b a r
    exact lv_lshl X.1 X.2.1 hd rfl (hJ _ ho H locs ls hl hP hD hS)
  · exact ho.elim
def o_i2l : xOp := fun x k _ => match x.2.2.1 with
  | .int a :: r => k (x.1 + 1, x.2.1, .long a.toInt64 :: r, x.2.2.2.1, x.2.2.2.2)
  | _ => False
theorem s_i2l (hd : decode cc pc = .ok (.i2l, 1)) : xSd k0 Ex cl own Ts cc nL ret R (pc, o_i2l) := by
  intro p l e s m args below meth c D cA ρ A X Q J x hpc hJ ho H locs ls hl hP hD hS
  obtain ⟨pc', L, st, h, n⟩ := x
  obtain rfl : pc' = pc := hpc
  dsimp only [o_i2l] at ho
  split at ho
  · rename_i a r
    exact lv_i2l X.1 X.2.1 hd rfl (hJ _ ho H locs ls hl hP hD hS)
  · exact ho.elim
def o_l2i : xOp := fun x k _ => match x.2.2.1 with
  | .long a :: r => k (x.1 + 1, x.2.1, .int a.toInt32 :: r, x.2.2.2.1, x.2.2.2.2)
  | _ => False
theorem s_l2i (hd : decode cc pc = .ok (.l2i, 1)) : xSd k0 Ex cl own Ts cc nL ret R (pc, o_l2i) := by
  intro p l e s m args below meth c D cA ρ A X Q J x hpc hJ ho H locs ls hl hP hD hS
  obtain ⟨pc', L, st, h, n⟩ := x
  obtain rfl : pc' = pc := hpc
  dsimp only [o_l2i] at ho
  split at ho
  · rename_i a r
    exact lv_l2i X.1 X.2.1 hd rfl (hJ _ ho H locs ls hl hP hD hS)
  · exact ho.elim
def o_lcmp : xOp := fun x k _ => match x.2.2.1 with
  | .long b :: .long a :: r => k (x.1 + 1, x.2.1, .int (lg_cmp a b) :: r, x.2.2.2.1, x.2.2.2.2)
  | _ => False
theorem s_lcmp (hd : decode cc pc = .ok (.lcmp, 1)) : xSd k0 Ex cl own Ts cc nL ret R (pc, o_lcmp) := by
  intro p l e s m args below meth c D cA ρ A X Q J x hpc hJ ho H locs ls hl hP hD hS
  obtain ⟨pc', L, st, h, n⟩ := x
  obtain rfl : pc' = pc := hpc
  dsimp only [o_lcmp] at ho
  split at ho
  · rename_i b a r
    exact W.lcmp X.1 X.2.1 hd (hJ _ ho H locs ls hl hP hD hS)
  · exact ho.elim
def o_if (c : Int32 → Prop) (tgt : Nat) : xOp := fun x k _ => match x.2.2.1 with
  | .int a :: r => (c a → k (tgt, x.2.1, r, x.2.2.2.1, x.2.2.2.2)) ∧ (¬ c a → k (x.1 + 3, x.2.1, r, x.2.2.2.1, x.2.2.2.2))
  | _ => False
def o_ic (c : Int32 → Int32 → Prop) (tgt : Nat) : xOp := fun x k _ => match x.2.2.1 with
  | .int b :: .int a :: r => (c a b → k (tgt, x.2.1, r, x.2.2.2.1, x.2.2.2.2)) ∧ (¬ c a b → k (x.1 + 3, x.2.1, r, x.2.2.2.1, x.2.2.2.2))
  | _ => False
def o_ifn (c : Int32 → Prop) (tgt : Nat) : xOp := fun x k _ => match x.2.2.1 with
  | .int a :: r => (c a → k (x.1 + 3, x.2.1, r, x.2.2.2.1, x.2.2.2.2)) ∧ (¬ c a → k (tgt, x.2.1, r, x.2.2.2.1, x.2.2.2.2))
  | _ => False
def o_icn (c : Int32 → Int32 → Prop) (tgt : Nat) : xOp := fun x k _ => match x.2.2.1 with
  | .int b :: .int a :: r => (c a b → k (x.1 + 3, x.2.1, r, x.2.2.2.1, x.2.2.2.2)) ∧ (¬ c a b → k (tgt, x.2.1, r, x.2.2.2.1, x.2.2.2.2))
  | _ => False
theorem s_ifeq {z : Int} {tgt : Nat} (hd : decode cc pc = .ok (.ifCond .eq z, 3)) (ht : (pc : Int) + z = (tgt : Int)) : xSd k0 Ex cl own Ts cc nL ret R (pc, o_if (fun a => a = 0) tgt) := by
  intro p l e s m args below meth c D cA ρ A X Q J x hpc hJ ho H locs ls hl hP hD hS
  obtain ⟨pc', L, st, h, n⟩ := x
  obtain rfl : pc' = pc := hpc
  dsimp only [o_if] at ho
  split at ho
  · rename_i a r
    exact lv_if_eq X.1 X.2.1 hd ht (fun q => hJ _ (ho.1 q) H locs ls hl hP hD hS) (fun q => hJ _ (ho.2 q) H locs ls hl hP hD hS)
  · exact ho.elim
theorem s_iceq {z : Int} {tgt : Nat} (hd : decode cc pc = .ok (.if_icmp .eq z, 3)) (ht : (pc : Int) + z = (tgt : Int)) : xSd k0 Ex cl own Ts cc nL ret R (pc, o_ic (fun a b => a = b) tgt) := by
  intro p l e s m args below meth c D cA ρ A X Q J x hpc hJ ho H locs ls hl hP hD hS
  obtain ⟨pc', L, st, h, n⟩ := x
  obtain rfl : pc' = pc := hpc
  dsimp only [o_ic] at ho
  split at ho
  · rename_i b a r
    exact lv_icmp_eq X.1 X.2.1 hd ht (fun q => hJ _ (ho.1 q) H locs ls hl hP hD hS) (fun q => hJ _ (ho.2 q) H locs ls hl hP hD hS)
  · exact ho.elim
theorem s_iflt {z : Int} {tgt : Nat} (hd : decode cc pc = .ok (.ifCond .lt z, 3)) (ht : (pc : Int) + z = (tgt : Int)) : xSd k0 Ex cl own Ts cc nL ret R (pc, o_if (fun a => a < 0) tgt) := by
  intro p l e s m args below meth c D cA ρ A X Q J x hpc hJ ho H locs ls hl hP hD hS
  obtain ⟨pc', L, st, h, n⟩ := x
  obtain rfl : pc' = pc := hpc
  dsimp only [o_if] at ho
  split at ho
  · rename_i a r
    exact lv_if_lt X.1 X.2.1 hd ht (fun q => hJ _ (ho.1 q) H locs ls hl hP hD hS) (fun q => hJ _ (ho.2 q) H locs ls hl hP hD hS)
  · exact ho.elim
theorem s_iclt {z : Int} {tgt : Nat} (hd : decode cc pc = .ok (.if_icmp .lt z, 3)) (ht : (pc : Int) + z = (tgt : Int)) : xSd k0 Ex cl own Ts cc nL ret R (pc, o_ic (fun a b => a < b) tgt) := by
  intro p l e s m args below meth c D cA ρ A X Q J x hpc hJ ho H locs ls hl hP hD hS
  obtain ⟨pc', L, st, h, n⟩ := x
  obtain rfl : pc' = pc := hpc
  dsimp only [o_ic] at ho
  split at ho
  · rename_i b a r
    exact lv_icmp_lt X.1 X.2.1 hd ht (fun q => hJ _ (ho.1 q) H locs ls hl hP hD hS) (fun q => hJ _ (ho.2 q) H locs ls hl hP hD hS)
  · exact ho.elim
theorem s_ifge {z : Int} {tgt : Nat} (hd : decode cc pc = .ok (.ifCond .ge z, 3)) (ht : (pc : Int) + z = (tgt : Int)) : xSd k0 Ex cl own Ts cc nL ret R (pc, o_if (fun a => 0 ≤ a) tgt) := by
  intro p l e s m args below meth c D cA ρ A X Q J x hpc hJ ho H locs ls hl hP hD hS
  obtain ⟨pc', L, st, h, n⟩ := x
  obtain rfl : pc' = pc := hpc
  dsimp only [o_if] at ho
  split at ho
  · rename_i a r
    exact lv_if_ge X.1 X.2.1 hd ht (fun q => hJ _ (ho.1 q) H locs ls hl hP hD hS) (fun q => hJ _ (ho.2 q) H locs ls hl hP hD hS)
  · exact ho.elim
theorem s_icge {z : Int} {tgt : Nat} (hd : decode cc pc = .ok (.if_icmp .ge z, 3)) (ht : (pc : Int) + z = (tgt : Int)) : xSd k0 Ex cl own Ts cc nL ret R (pc, o_ic (fun a b => b ≤ a) tgt) := by
  intro p l e s m args below meth c D cA ρ A X Q J x hpc hJ ho H locs ls hl hP hD hS
  obtain ⟨pc', L, st, h, n⟩ := x
  obtain rfl : pc' = pc := hpc
  dsimp only [o_ic] at ho
  split at ho
  · rename_i b a r
    exact lv_icmp_ge X.1 X.2.1 hd ht (fun q => hJ _ (ho.1 q) H locs ls hl hP hD hS) (fun q => hJ _ (ho.2 q) H locs ls hl hP hD hS)
  · exact ho.elim
theorem s_ifgt {z : Int} {tgt : Nat} (hd : decode cc pc = .ok (.ifCond .gt z, 3)) (ht : (pc : Int) + z = (tgt : Int)) : xSd k0 Ex cl own Ts cc nL ret R (pc, o_if (fun a => 0 < a) tgt) := by
  intro p l e s m args below meth c D cA ρ A X Q J x hpc hJ ho H locs ls hl hP hD hS
  obtain ⟨pc', L, st, h, n⟩ := x
  obtain rfl : pc' = pc := hpc
  dsimp only [o_if] at ho
  split at ho
  · rename_i a r
    exact lv_if_gt X.1 X.2.1 hd ht (fun q => hJ _ (ho.1 q) H locs ls hl hP hD hS) (fun q => hJ _ (ho.2 q) H locs ls hl hP hD hS)
  · exact ho.elim
theorem s_icgt {z : Int} {tgt : Nat} (hd : decode cc pc = .ok (.if_icmp .gt z, 3)) (ht : (pc : Int) + z = (tgt : Int)) : xSd k0 Ex cl own Ts cc nL ret R (pc, o_ic (fun a b => b < a) tgt) := by
  intro p l e s m args below meth c D cA ρ A X Q J x hpc hJ ho H locs ls hl hP hD hS
  obtain ⟨pc', L, st, h, n⟩ := x
  obtain rfl : pc' = pc := hpc
  dsimp only [o_ic] at ho
  split at ho
  · rename_i b a r
    exact lv_icmp_gt X.1 X.2.1 hd ht (fun q => hJ _ (ho.1 q) H locs ls hl hP hD hS) (fun q => hJ _ (ho.2 q) H locs ls hl hP hD hS)
  · exact ho.elim
theorem s_ifle {z : Int} {tgt : Nat} (hd : decode cc pc = .ok (.ifCond .le z, 3)) (ht : (pc : Int) + z = (tgt : Int)) : xSd k0 Ex cl own Ts cc nL ret R (pc, o_if (fun a => a ≤ 0) tgt) := by
  intro p l e s m args below meth c D cA ρ A X Q J x hpc hJ ho H locs ls hl hP hD hS
  obtain ⟨pc', L, st, h, n⟩ := x
  obtain rfl : pc' = pc := hpc
  dsimp only [o_if] at ho
  split at ho
  · rename_i a r
    exact lv_if_le X.1 X.2.1 hd ht (fun q => hJ _ (ho.1 q) H locs ls hl hP hD hS) (fun q => hJ _ (ho.2 q) H locs ls hl hP hD hS)
  · exact ho.elim
theorem s_icle {z : Int} {tgt : Nat} (hd : decode cc pc = .ok (.if_icmp .le z, 3)) (ht : (pc : Int) + z = (tgt : Int)) : xSd k0 Ex cl own Ts cc nL ret R (pc, o_ic (fun a b => a ≤ b) tgt) := by
  intro p l e s m args below meth c D cA ρ A X Q J x hpc hJ ho H locs ls hl hP hD hS
  obtain ⟨pc', L, st, h, n⟩ := x
  obtain rfl : pc' = pc := hpc
  dsimp only [o_ic] at ho
  split at ho
  · rename_i b a r
    exact lv_icmp_le X.1 X.2.1 hd ht (fun q => hJ _ (ho.1 q) H locs ls hl hP hD hS) (fun q => hJ _ (ho.2 q) H locs ls hl hP hD hS)
  · exact ho.elim
theorem s_ifne {z : Int} {tgt : Nat} (hd : decode cc pc = .ok (.ifCond .ne z, 3)) (ht : (pc : Int) + z = (tgt : Int)) : xSd k0 Ex cl own Ts cc nL ret R (pc, o_ifn (fun a => a = 0) tgt) := by
  intro p l e s m args below meth c D cA ρ A X Q J x hpc hJ ho H locs ls hl hP hD hS
  obtain ⟨pc', L, st, h, n⟩ := x
  obtain rfl : pc' = pc := hpc
  dsimp only [o_ifn] at ho
  split at ho
  · rename_i a r
    exact lv_if_ne X.1 X.2.1 hd ht (fun q => hJ _ (ho.2 q) H locs ls hl hP hD hS) (fun q => hJ _ (ho.1 q) H locs ls hl hP hD hS)
  · exact ho.elim
theorem s_icne {z : Int} {tgt : Nat} (hd : decode cc pc = .ok (.if_icmp .ne z, 3)) (ht : (pc : Int) + z = (tgt : Int)) : xSd k0 Ex cl own Ts cc nL ret R (pc, o_icn (fun a b => a = b) tgt) := by
  intro p l e s m args below meth c D cA ρ A X Q J x hpc hJ ho H locs ls hl hP hD hS
  obtain ⟨pc', L, st, h, n⟩ := x
  obtain rfl : pc' = pc := hpc
  dsimp only [o_icn] at ho
  split at ho
  · rename_i b a r
    exact lv_icmp_ne X.1 X.2.1 hd ht (fun q => hJ _ (ho.2 q) H locs ls hl hP hD hS) (fun q => hJ _ (ho.1 q) H locs ls hl hP hD hS)
  · exact ho.elim
def o_goto (tgt : Nat) : xOp := fun x k _ => k (tgt, x.2.1, x.2.2.1, x.2.2.2.1, x.2.2.2.2)
theorem s_goto {z : Int} {tgt : Nat} (hd : decode cc pc = .ok (.goto z, 3)) (ht : (pc : Int) + z = (tgt : Int)) : xSd k0 Ex cl own Ts cc nL ret R (pc, o_goto tgt) := by
  intro p l e s m args below meth c D cA ρ A X Q J x hpc hJ ho H locs ls hl hP hD hS
  obtain ⟨pc', L, st, h, n⟩ := x
  obtain rfl : pc' = pc := hpc
  exact lv_goto X.1 X.2.1 hd ht (hJ _ ho H locs ls hl hP hD hS)
def o_dup : xOp := fun x k _ => match x.2.2.1 with
  | a :: r => bif Nat.beq a.category 1 then k (x.1 + 1, x.2.1, a :: a :: r, x.2.2.2.1, x.2.2.2.2) else False
  | _ => False
def o_pop : xOp := fun x k _ => match x.2.2.1 with
  | a :: r => bif Nat.beq a.category 1 then k (x.1 + 1, x.2.1, r, x.2.2.2.1, x.2.2.2.2) else False
  | _ => False
def o_dupx1 : xOp := fun x k _ => match x.2.2.1 with
  | a :: b :: r => bif Nat.beq a.category 1 && Nat.beq b.category 1 then k (x.1 + 1, x.2.1, a :: b :: a :: r, x.2.2.2.1, x.2.2.2.2) else False
  | _ => False
def o_dup2 : xOp := fun x k _ => match x.2.2.1 with
  | a :: b :: r => bif Nat.beq a.category 1 && Nat.beq b.category 1 then k (x.1 + 1, x.2.1, a :: b :: a :: b :: r, x.2.2.2.1, x.2.2.2.2) else False
  | _ => False
theorem bif_t {b : Bool} {P : Prop} (h : bif b then P else False) : b = true ∧ P := by
  cases b with
  | true => exact ⟨rfl, h⟩
  | false => exact h.elim
theorem cat1 {v : Value} {ρ : Nat → Nat} (h : Nat.beq v.category 1 = true) : (xv ρ v).category = 1 := by rw [xv_cat]; exact Nat.eq_of_beq_eq_true h
theorem s_dup (hd : decode cc pc = .ok (.dup, 1)) : xSd k0 Ex cl own Ts cc nL ret R (pc, o_dup) := by
  intro p l e s m args below meth c D cA ρ A X Q J x hpc hJ ho H locs ls hl hP hD hS
  obtain ⟨pc', L, st, h, n⟩ := x
  obtain rfl : pc' = pc := hpc
  dsimp only [o_dup] at ho
  split at ho
  · rename_i a r
    exact lv_dup X.1 X.2.1 hd (cat1 (bif_t ho).1) (hJ _ (bif_t ho).2 H locs ls hl hP hD hS)
  · exact ho.elim
theorem s_pop (hd : decode cc pc = .ok (.pop, 1)) : xSd k0 Ex cl own Ts cc nL ret R (pc, o_pop) := by
  intro p l e s m args below meth c D cA ρ A X Q J x hpc hJ ho H locs ls hl hP hD hS
  obtain ⟨pc', L, st, h, n⟩ := x
  obtain rfl : pc' = pc := hpc
  dsimp only [o_pop] at ho
  split at ho
  · rename_i a r
    exact lv_pop X.1 X.2.1 hd (cat1 (bif_t ho).1) (hJ _ (bif_t ho).2 H locs ls hl hP hD hS)
  · exact ho.elim
theorem s_dupx1 (hd : decode cc pc = .ok (.dup_x1, 1)) : xSd k0 Ex cl own Ts cc nL ret R (pc, o_dupx1) := by
  intro p l e s m args below meth c D cA ρ A X Q J x hpc hJ ho H locs ls hl hP hD hS
  obtain ⟨pc', L, st, h, n⟩ := x
  obtain rfl : pc' = pc := hpc
  dsimp only [o_dupx1] at ho
  split at ho
  · rename_i a b r
    obtain ⟨h1, h2⟩ := bif_t ho
    rw [Bool.and_eq_true] at h1
    exact lv_dup_x1 X.1 X.2.1 hd (cat1 h1.1) (cat1 h1.2) (hJ _ h2 H locs ls hl hP hD hS)
  · exact ho.elim
theorem s_dup2 (hd : decode cc pc = .ok (.dup2, 1)) : xSd k0 Ex cl own Ts cc nL ret R (pc, o_dup2) := by
  intro p l e s m args below meth c D cA ρ A X Q J x hpc hJ ho H locs ls hl hP hD hS
  obtain ⟨pc', L, st, h, n⟩ := x
  obtain rfl : pc' = pc := hpc
  dsimp only [o_dup2] at ho
  split at ho
  · rename_i a b r
    obtain ⟨h1, h2⟩ := bif_t ho
    rw [Bool.and_eq_true] at h1
    exact lv_dup2_11 X.1 X.2.1 hd (cat1 h1.1) (cat1 h1.2) (hJ _ h2 H locs ls hl hP hD hS)
  · exact ho.elim
def o_iaload : xOp := fun x k _ => match x.2.2.1 with
  | .int i :: .ref a :: r => match x.2.2.2.1[a]? with
    | some (.inl (0, (N, .inl f))) => vp_in i N ∧ k (x.1 + 1, x.2.1, .int (f i.toNatClampNeg) :: r, x.2.2.2.1, x.2.2.2.2)
    | _ => False
  | _ => False
theorem s_iaload (hd : decode cc pc = .ok (.iaload, 1)) : xSd k0 Ex cl own Ts cc nL ret R (pc, o_iaload) := by
  intro p l e s m args below meth c D cA ρ A X Q J x hpc hJ ho H locs ls hl hP hD hS
  obtain ⟨pc', L, st, h, n⟩ := x
  obtain rfl : pc' = pc := hpc
  dsimp only [o_iaload] at ho
  split at ho
  · rename_i i a r
    split at ho
    · rename_i N f hc
      exact va_iald X.1 X.2.1 X.2.2.2.2.2.2.2.1 hP a 0 (xw_at hc) rfl ho.1 hd (hJ _ ho.2 H locs ls hl hP hD hS)
    · exact ho.elim
  · exact ho.elim
def o_baload : xOp := fun x k _ => match x.2.2.1 with
  | .int i :: .ref a :: r => match x.2.2.2.1[a]? with
    | some (.inl (2, (N, .inl f))) => vp_in i N ∧ k (x.1 + 1, x.2.1, .int (f i.toNatClampNeg) :: r, x.2.2.2.1, x.2.2.2.2)
    | _ => False
  | _ => False
theorem s_baload (hd : decode cc pc = .ok (.baload, 1)) : xSd k0 Ex cl own Ts cc nL ret R (pc, o_baload) := by
  intro p l e s m args below meth c D cA ρ A X Q J x hpc hJ ho H locs ls hl hP hD hS
  obtain ⟨pc', L, st, h, n⟩ := x
  obtain rfl : pc' = pc := hpc
  dsimp only [o_baload] at ho
  split at ho
  · rename_i i a r
    split at ho
    · rename_i N f hc
      exact va_zald X.1 X.2.1 X.2.2.2.2.2.2.2.1 hP a 2 (xw_at hc) rfl ho.1 hd (hJ _ ho.2 H locs ls hl hP hD hS)
    · exact ho.elim
  · exact ho.elim
def o_laload : xOp := fun x k _ => match x.2.2.1 with
  | .int i :: .ref a :: r => match x.2.2.2.1[a]? with
    | some (.inl (1, (N, .inr (.inl f)))) => vp_in i N ∧ k (x.1 + 1, x.2.1, .long (f i.toNatClampNeg) :: r, x.2.2.2.1, x.2.2.2.2)
    | _ => False
  | _ => False
theorem s_laload (hd : decode cc pc = .ok (.laload, 1)) : xSd k0 Ex cl own Ts cc nL ret R (pc, o_laload) := by
  intro p l e s m args below meth c D cA ρ A X Q J x hpc hJ ho H locs ls hl hP hD hS
  obtain ⟨pc', L, st, h, n⟩ := x
  obtain rfl : pc' = pc := hpc
  dsimp only [o_laload] at ho
  split at ho
  · rename_i i a r
    split at ho
    · rename_i N f hc
      exact va_lald X.1 X.2.1 X.2.2.2.2.2.2.2.1 hP a 1 (xw_at hc) rfl ho.1 hd (hJ _ ho.2 H locs ls hl hP hD hS)
    · exact ho.elim
  · exact ho.elim
def o_iastore : xOp := fun x k _ => match x.2.2.1 with
  | .int v :: .int i :: .ref a :: r => match x.2.2.2.1[a]? with
    | some (.inl (0, (N, .inl f))) => vp_in i N ∧ k (x.1 + 1, x.2.1, r, x.2.2.2.1.set a (.inl (0, (N, .inl (upd f i.toNatClampNeg v)))), x.2.2.2.2)
    | _ => False
  | _ => False
theorem s_iastore (hd : decode cc pc = .ok (.iastore, 1)) : xSd k0 Ex cl own Ts cc nL ret R (pc, o_iastore) := by
  intro p l e s m args below meth c D cA ρ A X Q J x hpc hJ ho H locs ls hl hP hD hS
  obtain ⟨pc', L, st, h, n⟩ := x
  obtain rfl : pc' = pc := hpc
  dsimp only [o_iastore] at ho
  split at ho
  · rename_i v i a r
    split at ho
    · rename_i N f hc
      refine va_iast X.1 X.2.1 X.2.2.2.2.2.2.2.1 hP hD hS a 0 (xw_at hc) rfl ho.1 hd (fun H1 locs1 hP1 hD1 hS1 => ?_)
      have e := xw_set0 (ρ := ρ) (cA := cA) h a (.inl (0, (N, .inl (upd f i.toNatClampNeg v))))
      exact hJ _ ho.2 H1 locs1 ls hl (by rw [← e]; exact hP1) (by rw [← e]; exact hD1) hS1
    · exact ho.elim
  · exact ho.elim
def o_bastore : xOp := fun x k _ => match x.2.2.1 with
  | .int v :: .int i :: .ref a :: r => match x.2.2.2.1[a]? with
    | some (.inl (2, (N, .inl f))) => vp_in i N ∧ k (x.1 + 1, x.2.1, r, x.2.2.2.1.set a (.inl (2, (N, .inl (upd f i.toNatClampNeg (vp_nar .boolean v))))), x.2.2.2.2)
    | _ => False
  | _ => False
theorem s_bastore (hd : decode cc pc = .ok (.bastore, 1)) : xSd k0 Ex cl own Ts cc nL ret R (pc, o_bastore) := by
  intro p l e s m args below meth c D cA ρ A X Q J x hpc hJ ho H locs ls hl hP hD hS
  obtain ⟨pc', L, st, h, n⟩ := x
  obtain rfl : pc' = pc := hpc
  dsimp only [o_bastore] at ho
  split at ho
  · rename_i v i a r
    split at ho
    · rename_i N f hc
      refine va_zast X.1 X.2.1 X.2.2.2.2.2.2.2.1 hP hD hS a 2 (xw_at hc) rfl ho.1 hd (fun H1 locs1 hP1 hD1 hS1 => ?_)
      have e := xw_set0 (ρ := ρ) (cA := cA) h a (.inl (2, (N, .inl (upd f i.toNatClampNeg (vp_nar .boolean v)))))
      exact hJ _ ho.2 H1 locs1 ls hl (by rw [← e]; exact hP1) (by rw [← e]; exact hD1) hS1
    · exact ho.elim
  · exact ho.elim
def o_lastore : xOp := fun x k _ => match x.2.2.1 with
  | .long v :: .int i :: .ref a :: r => match x.2.2.2.1[a]? with
    | some (.inl (1, (N, .inr (.inl f)))) => vp_in i N ∧ k (x.1 + 1, x.2.1, r, x.2.2.2.1.set a (.inl (1, (N, .inr (.inl (vp_updL f i.toNatClampNeg v))))), x.2.2.2.2)
    | _ => False
  | _ => False
theorem s_lastore (hd : decode cc pc = .ok (.lastore, 1)) : xSd k0 Ex cl own Ts cc nL ret R (pc, o_lastore) := by
  intro p l e s m args below meth c D cA ρ A X Q J x hpc hJ ho H locs ls hl hP hD hS
  obtain ⟨pc', L, st, h, n⟩ := x
  obtain rfl : pc' = pc := hpc
  dsimp only [o_lastore] at ho
  split at ho
  · rename_i v i a r
    split at ho
    · rename_i N f hc
      refine va_last X.1 X.2.1 X.2.2.2.2.2.2.2.1 hP hD hS a 1 (xw_at hc) rfl ho.1 hd (fun H1 locs1 hP1 hD1 hS1 => ?_)
      have e := xw_set0 (ρ := ρ) (cA := cA) h a (.inl (1, (N, .inr (.inl (vp_updL f i.toNatClampNeg v)))))
      exact hJ _ ho.2 H1 locs1 ls hl (by rw [← e]; exact hP1) (by rw [← e]; exact hD1) hS1
    · exact ho.elim
  · exact ho.elim
end XS
