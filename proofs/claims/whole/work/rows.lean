section
-- AN ABSTRACT MACHINE over the kit's rows: cells are numbered, a reference is a cell's number; a method's body is a table of steps
abbrev xC : Type := (Nat × vp_A) ⊕ (Nat × List Value)
abbrev xH : Type := List xC
abbrev xL : Type := List (Option Value)
abbrev xF : Type := Nat × xL × List Value × xH × Nat
abbrev xR : Type := Option Value ⊕ Nat
abbrev xQ : Type := xR → xH → Nat → Prop
abbrev xOp : Type := xF → (xF → Prop) → xQ → Prop
abbrev xT : Type := List (Nat × xOp)
abbrev xP : Type := List Value → xH → xQ → Prop
def xlk : xT → Nat → Option xOp
  | [], _ => none
  | q :: t, pc => bif Nat.beq q.1 pc then some q.2 else xlk t pc
theorem xlk_mem : ∀ {tb : xT} {pc : Nat} {op : xOp}, xlk tb pc = some op → (pc, op) ∈ tb
  | [], _, _, h => by cases h
  | q :: t, pc, op, h => by
    unfold xlk at h
    cases hb : Nat.beq q.1 pc with
    | true =>
      rw [hb] at h
      have h1 : q.2 = op := by simpa using h
      have h2 : q.1 = pc := Nat.eq_of_beq_eq_true hb
      have : q = (pc, op) := by rw [← h1, ← h2]
      rw [this]
      exact List.mem_cons_self
    | false =>
      rw [hb] at h
      exact List.mem_cons_of_mem _ (xlk_mem h)
def xStep (tb : xT) (I : xF → Prop) (Q : xQ) (c : xF) : Prop := match xlk tb c.1 with
  | none => False
  | some op => op c I Q
/-- the least predicate that every step of the table carries on -/
def xG (tb : xT) (Q : xQ) (c : xF) : Prop := ∀ I : xF → Prop, (∀ (c' : xF) (J : xF → Prop), (∀ x, J x → I x) → xStep tb J Q c' → I c') → I c
theorem xG.step {tb : xT} {Q : xQ} {c : xF} (h : xStep tb (xG tb Q) Q c) : xG tb Q c := fun I hI => hI c _ (fun _ hx => hx I hI) h
/-- some steps at once, up to the cuts -/
def xgo (tb : xT) (Q : xQ) (cut : List Nat) : Nat → xF → Prop
  | 0, c => xG tb Q c
  | n + 1, c => bif cut.contains c.1 then xG tb Q c else xStep tb (xgo tb Q cut n) Q c
theorem xG.ofGo {tb : xT} {Q : xQ} {cut : List Nat} : ∀ (n : Nat) {c : xF}, xgo tb Q cut n c → xG tb Q c
  | 0, _, h => h
  | n + 1, c, h => by
    unfold xgo at h
    cases hb : cut.contains c.1 with
    | true => rw [hb] at h; exact h
    | false => rw [hb] at h; exact fun I hI => hI c _ (fun x hx => xG.ofGo n hx I hI) h
theorem xG.go {tb : xT} {Q : xQ} {c : xF} (cut : List Nat) (n : Nat) (h : xStep tb (xgo tb Q cut n) Q c) : xG tb Q c := fun I hI => hI c _ (fun x hx => xG.ofGo n hx I hI) h
theorem xG.mono {tb : xT} {Q : xQ} {c : xF} (h : xG tb Q c) : xG tb Q c := h
def xv (ρ : Nat → Nat) : Value → Value
  | .ref k => .ref (ρ k)
  | .int x => .int x
  | .long x => .long x
  | .float x => .float x
  | .double x => .double x
  | .null => .null
  | .retAddr x => .retAddr x
def xe (ρ : Nat → Nat) (cA : Nat → ClassId) : xC → va_E
  | .inl a => .inl (cA a.1, a.2)
  | .inr o => .inr (o.1, o.2.map (xv ρ))
def xw (ρ : Nat → Nat) (cA : Nat → ClassId) : Nat → xH → va_W
  | _, [] => []
  | i, c :: t => (ρ i, xe ρ cA c) :: xw ρ cA (i + 1) t
def xla (ρ : Nat → Nat) : Nat → xL → List (Nat × Value)
  | _, [] => []
  | i, none :: t => xla ρ (i + 1) t
  | i, some v :: t => (i, xv ρ v) :: xla ρ (i + 1) t
def xd : Option Value → Option Value
  | some v => bif Nat.beq v.category 2 then none else some v
  | none => none
def xset (i : Nat) (v : Value) : Nat → xL → xL
  | _, [] => []
  | j, o :: t => (bif Nat.beq j i then some v else bif Nat.beq (j + 1) i then xd o else o) :: xset i v (j + 1) t
def xset2 (i : Nat) (v : Value) : Nat → xL → xL
  | _, [] => []
  | j, o :: t => (bif Nat.beq j i then some v else bif Nat.beq j (i + 1) then none else bif Nat.beq (j + 1) i then xd o else o) :: xset2 i v (j + 1) t
def xcs (st : List Value) : Nat := (st.map fun v => v.category).sum
section XA
variable {ρ : Nat → Nat} {cA : Nat → ClassId}
theorem xv_cat (v : Value) : (xv ρ v).category = v.category := by cases v <;> rfl
theorem xcs_map (st : List Value) : ((st.map (xv ρ)).map fun v => v.category).sum = xcs st := by
  unfold xcs
  rw [List.map_map]
  congr 1
  exact List.map_congr_left fun v _ => xv_cat v
theorem xw_get : ∀ (h : xH) (i k : Nat), (xw ρ cA i h)[k]? = h[k]?.map (fun c => (ρ (i + k), xe ρ cA c))
  | [], i, k => by simp [xw]
  | c :: t, i, 0 => by simp [xw]
  | c :: t, i, k + 1 => by
    simp only [xw, List.getElem?_cons_succ]
    rw [xw_get t (i + 1) k, show i + 1 + k = i + (k + 1) by omega]
theorem xw_at {h : xH} {k : Nat} {c : xC} (e : h[k]? = some c) : (xw ρ cA 0 h)[k]? = some (ρ k, xe ρ cA c) := by
  rw [xw_get, e]; simp
theorem xw_set : ∀ (h : xH) (i k : Nat) (c : xC), (xw ρ cA i h).set k (ρ (i + k), xe ρ cA c) = xw ρ cA i (h.set k c)
  | [], i, k, c => by simp [xw]
  | d :: t, i, 0, c => by simp [xw]
  | d :: t, i, k + 1, c => by
    simp only [xw, List.set_cons_succ]
    rw [← xw_set t (i + 1) k c, show i + 1 + k = i + (k + 1) by omega]
theorem xw_set0 (h : xH) (k : Nat) (c : xC) : (xw ρ cA 0 h).set k (ρ k, xe ρ cA c) = xw ρ cA 0 (h.set k c) := by
  have := xw_set (ρ := ρ) (cA := cA) h 0 k c
  rwa [Nat.zero_add] at this
theorem xla_mem : ∀ (l : xL) (i : Nat) (q : Nat × Value), q ∈ xla ρ i l ↔ ∃ (k : Nat) (v : Value), l[k]? = some (some v) ∧ q = (i + k, xv ρ v)
  | [], i, q => by simp [xla]
  | none :: t, i, q => by
    simp only [xla]
    rw [xla_mem t (i + 1) q]
    constructor
    · rintro ⟨k, v, h1, h2⟩
      exact ⟨k + 1, v, by simpa using h1, by rw [h2, show i + 1 + k = i + (k + 1) by omega]⟩
    · rintro ⟨k, v, h1, h2⟩
      cases k with
      | zero => simp at h1
      | succ k => exact ⟨k, v, by simpa using h1, by rw [h2, show i + 1 + k = i + (k + 1) by omega]⟩
  | some w :: t, i, q => by
    simp only [xla, List.mem_cons]
    rw [xla_mem t (i + 1) q]
    constructor
    · rintro (h | ⟨k, v, h1, h2⟩)
      · exact ⟨0, w, by simp, by rw [h]; simp⟩
      · exact ⟨k + 1, v, by simpa using h1, by rw [h2, show i + 1 + k = i + (k + 1) by omega]⟩
    · rintro ⟨k, v, h1, h2⟩
      cases k with
      | zero =>
        have : w = v := by simpa using h1
        exact Or.inl (by rw [h2, this]; simp)
      | succ k => exact Or.inr ⟨k, v, by simpa using h1, by rw [h2, show i + 1 + k = i + (k + 1) by omega]⟩
theorem lv_subset {ls : Array Slot} {n : Nat} {a b : List (Nat × Value)} (h : lv_has ls n a) (hs : ∀ q ∈ b, q ∈ a) : lv_has ls n b := ⟨h.1, h.2.1, fun q hq => h.2.2 q (hs q hq)⟩
theorem xla_at {ls : Array Slot} {n : Nat} {l : xL} (h : lv_has ls n (xla ρ 0 l)) {i : Nat} {v : Value} (e : l[i]? = some (some v)) : ls[i]? = some (.val (xv ρ v)) :=
  h.2.2 (i, xv ρ v) ((xla_mem l 0 _).mpr ⟨i, v, e, by simp⟩)
theorem xset_get (i : Nat) (v : Value) : ∀ (l : xL) (j k : Nat), (xset i v j l)[k]? = l[k]?.map (fun o => bif Nat.beq (j + k) i then some v else bif Nat.beq (j + k + 1) i then xd o else o)
  | [], j, k => by simp [xset]
  | o :: t, j, 0 => by simp [xset]
  | o :: t, j, k + 1 => by
    simp only [xset, List.getElem?_cons_succ]
    rw [xset_get i v t (j + 1) k, show j + 1 + k = j + (k + 1) by omega]
theorem xset2_get (i : Nat) (v : Value) : ∀ (l : xL) (j k : Nat), (xset2 i v j l)[k]? = l[k]?.map (fun o => bif Nat.beq (j + k) i then some v else bif Nat.beq (j + k) (i + 1) then none else bif Nat.beq (j + k + 1) i then xd o else o)
  | [], j, k => by simp [xset2]
  | o :: t, j, 0 => by simp [xset2]
  | o :: t, j, k + 1 => by
    simp only [xset2, List.getElem?_cons_succ]
    rw [xset2_get i v t (j + 1) k, show j + 1 + k = j + (k + 1) by omega]
theorem xd_some {o : Option Value} {w : Value} (h : xd o = some w) : o = some w ∧ ¬ w.category = 2 := by
  cases o with
  | none => cases h
  | some u =>
    change (bif Nat.beq u.category 2 then none else some u) = some w at h
    cases hb : Nat.beq u.category 2 with
    | true => rw [hb] at h; cases h
    | false =>
      rw [hb] at h
      have hu : u = w := by simpa using h
      subst hu
      exact ⟨rfl, fun q => by rw [q] at hb; cases hb⟩
theorem beq_f {a b : Nat} (h : Nat.beq a b = false) : ¬ a = b := fun q => by subst q; rw [Nat.beq_refl] at h; cases h
theorem xset_lv {ls : Array Slot} {n : Nat} {l : xL} {i : Nat} {v : Value} (h : lv_has ls n ((i, xv ρ v) :: (xla ρ 0 l).filter (fun q => !(q.1 == i) && !(q.1 + 1 == i && q.2.category == 2)))) : lv_has ls n (xla ρ 0 (xset i v 0 l)) := by
  refine lv_subset h fun q hq => ?_
  obtain ⟨k, w, h1, rfl⟩ := (xla_mem _ 0 q).mp hq
  rw [xset_get] at h1
  cases hlk : l[k]? with
  | none => rw [hlk] at h1; cases h1
  | some o =>
    rw [hlk] at h1
    simp only [Option.map_some, Option.some.injEq, Nat.zero_add] at h1
    cases hb : Nat.beq k i with
    | true =>
      rw [hb] at h1
      have e1 : v = w := by simpa using h1
      have e2 : k = i := Nat.eq_of_beq_eq_true hb
      subst e1; subst e2
      simp
    | false =>
      rw [hb] at h1
      have hne : ¬ k = i := beq_f hb
      refine List.mem_cons_of_mem _ (List.mem_filter.mpr ?_)
      cases hc : Nat.beq (k + 1) i with
      | true =>
        rw [hc] at h1
        obtain ⟨rfl, hcat⟩ := xd_some (by simpa using h1)
        refine ⟨(xla_mem _ 0 _).mpr ⟨k, w, hlk, rfl⟩, ?_⟩
        simp [hne, xv_cat, hcat]
      | false =>
        rw [hc] at h1
        have e1 : o = some w := by simpa using h1
        subst e1
        refine ⟨(xla_mem _ 0 _).mpr ⟨k, w, hlk, rfl⟩, ?_⟩
        simp [hne, beq_f hc]
theorem xset2_lv {ls : Array Slot} {n : Nat} {l : xL} {i : Nat} {v : Value} (h : lv_has ls n ((i, xv ρ v) :: (xla ρ 0 l).filter (fun q => !(q.1 == i) && (!(q.1 == i + 1) && !(q.1 + 1 == i && q.2.category == 2))))) : lv_has ls n (xla ρ 0 (xset2 i v 0 l)) := by
  refine lv_subset h fun q hq => ?_
  obtain ⟨k, w, h1, rfl⟩ := (xla_mem _ 0 q).mp hq
  rw [xset2_get] at h1
  cases hlk : l[k]? with
  | none => rw [hlk] at h1; cases h1
  | some o =>
    rw [hlk] at h1
    simp only [Option.map_some, Option.some.injEq, Nat.zero_add] at h1
    cases hb : Nat.beq k i with
    | true =>
      rw [hb] at h1
      have e1 : v = w := by simpa using h1
      have e2 : k = i := Nat.eq_of_beq_eq_true hb
      subst e1; subst e2
      simp
    | false =>
      rw [hb] at h1
      have hne : ¬ k = i := beq_f hb
      refine List.mem_cons_of_mem _ (List.mem_filter.mpr ?_)
      cases hb2 : Nat.beq k (i + 1) with
      | true => rw [hb2] at h1; cases h1
      | false =>
        rw [hb2] at h1
        have hne2 : ¬ k = i + 1 := beq_f hb2
        cases hc : Nat.beq (k + 1) i with
        | true =>
          rw [hc] at h1
          obtain ⟨rfl, hcat⟩ := xd_some (by simpa using h1)
          refine ⟨(xla_mem _ 0 _).mpr ⟨k, w, hlk, rfl⟩, ?_⟩
          simp [hne, hne2, xv_cat, hcat]
        | false =>
          rw [hc] at h1
          have e1 : o = some w := by simpa using h1
          subst e1
          refine ⟨(xla_mem _ 0 _).mpr ⟨k, w, hlk, rfl⟩, ?_⟩
          simp [hne, hne2, beq_f hc]
end XA
def xty (cA : Nat → ClassId) : List (ClassId × FieldType) := [(cA 0, .int), (cA 1, .long), (cA 2, .boolean)]
/-- the names of what is thrown -/
def xEx : Nat → String
  | 0 => "java/lang/IllegalArgumentException"
  | 1 => "java/lang/IndexOutOfBoundsException"
  | 2 => "java/lang/IllegalStateException"
  | _ => "java/util/NoSuchElementException"
def xO (ρ : Nat → Nat) (r : xR) (o : Outcome) (s t : State) : Prop := match r with
  | .inl none => o = .returned none
  | .inl (some v) => o = .returned (some (xv ρ v))
  | .inr X => ∃ (a : Nat) (cell : Cell), o = .threw a ∧ t.heap[a]? = some cell ∧ (∀ k, cell.vm ≠ .statics k) ∧ s.vm.findClass (xEx X) = some cell.cls ∧ ∃ k, s.vm.classes[cell.cls]? = some k
def xEnd (k0 : Nat × Nat) (cl : List vw_C) (D : va_G) (cA : Nat → ClassId) (ρ : Nat → Nat) (A : Nat → Prop) (Q : xQ) (s : State) (o : Outcome) (t : State) : Prop :=
  ∃ (r : xR) (h : xH) (n : Nat), Q r h n ∧ xO ρ r o s t ∧ va_P D cl (xw ρ cA 0 h) t.heap ∧ va_D A (xw ρ cA 0 h) ∧ va_F A s t ∧ s.WarmedH t.vm ∧ ∃ L, s.sameButNew ({ t with vm := s.vm } : State) L (k0.1 + n) (k0.2 + 6 * n) ∧ ∀ q ∈ L, A q.base
def xMQ (k0 : Nat × Nat) (cl : List vw_C) (D : va_G) (cA : Nat → ClassId) (ρ : Nat → Nat) (A : Nat → Prop) (Q : xQ) (s : State) (below : List Frame) : State → Prop := fun t => ∃ o, t.status = .running ∧ Ended t below o ∧ xEnd k0 cl D cA ρ A Q s o t
/-- the two statics of Throwable that a throw reads -/
def xNC : List Cond := [.not (.castable "java/lang/IllegalArgumentException" "java/lang/IndexOutOfBoundsException"), .not (.castable "java/lang/IllegalArgumentException" "java/lang/IllegalStateException"), .not (.castable "java/lang/IllegalArgumentException" "java/util/NoSuchElementException"), .not (.castable "java/lang/IndexOutOfBoundsException" "java/lang/IllegalArgumentException"), .not (.castable "java/lang/IndexOutOfBoundsException" "java/lang/IllegalStateException"), .not (.castable "java/lang/IndexOutOfBoundsException" "java/util/NoSuchElementException"), .not (.castable "java/lang/IllegalStateException" "java/lang/IllegalArgumentException"), .not (.castable "java/lang/IllegalStateException" "java/lang/IndexOutOfBoundsException"), .not (.castable "java/lang/IllegalStateException" "java/util/NoSuchElementException"), .not (.castable "java/util/NoSuchElementException" "java/lang/IllegalArgumentException"), .not (.castable "java/util/NoSuchElementException" "java/lang/IndexOutOfBoundsException"), .not (.castable "java/util/NoSuchElementException" "java/lang/IllegalStateException")]
def xHs (U : State) : Prop := (∀ w ∈ xNC, w.before #[] U = true) ∧ ((Cond.laysStatic "java/lang/Throwable" "UNASSIGNED_STACK" "[Ljava/lang/StackTraceElement;").before #[] U = true ∧ (Cond.isRef (.static "java/lang/Throwable" "UNASSIGNED_STACK" "[Ljava/lang/StackTraceElement;")).before #[] U = true) ∧ (Cond.laysStatic "java/lang/Throwable" "SUPPRESSED_SENTINEL" "Ljava/util/List;").before #[] U = true ∧ (Cond.isRef (.static "java/lang/Throwable" "SUPPRESSED_SENTINEL" "Ljava/util/List;")).before #[] U = true
theorem ls_kept {C n d : String} {s U : State} {args args' : Array Value} (hvm : s.vm.Alike U.vm) (hk : ∀ (a : Nat) (cell : Cell), s.heap[a]? = some cell → cell.vm.isStatics = true → U.heap[a]? = some cell) (h : (Cond.laysStatic C n d).before args s = true) :
    (Cond.laysStatic C n d).before args' U = true ∧ ((Cond.isRef (.static C n d)).before args s = true → (Cond.isRef (.static C n d)).before args' U = true) := by
  obtain ⟨c, k, i, f, a, cell, hc, hi, hst, hsta, hcell, hiss, hcls, hlt, hty⟩ := Cond.laysStatic_spec h
  obtain ⟨k', hi', he⟩ := State.fieldFound?_setVm hvm hi
  have hi2 : U.fieldFound? C n d = some (c, k', i, f) := hi'
  have hc' : U.vm.findClass C = some c := by rw [hvm.findClass]; exact hc
  have hcell' := hk a cell hcell hiss
  have hsta' : k'.statics = some a := by rw [he]; exact hsta
  have hty' : k'.staticTypes[f.slot]? = some f.type := by rw [he]; exact hty
  refine ⟨by simp [Cond.before, Cond.holds, Cond.value, hc', hi2, hst, hsta', hcell', hiss, hcls, hlt, hty'], fun hr => ?_⟩
  have e1 : (Term.static C n d).eval args s none [] s = cell.slots[f.slot]? := by simp [Term.eval, State.fieldNamed?, hi, hst, hsta, hcell, hiss]
  have e2 : (Term.static C n d).eval args' U none [] U = cell.slots[f.slot]? := by simp [Term.eval, State.fieldNamed?, hi2, hst, hsta', hcell', hiss]
  simp only [Cond.before, Cond.holds, Cond.value] at hr ⊢
  rw [e2]
  rw [e1] at hr
  exact hr
theorem xNC_is : ∀ w ∈ xNC, ∃ a b, w = Cond.not (.castable a b) := by
  intro w hw
  simp only [xNC, List.mem_cons, List.not_mem_nil, or_false] at hw
  rcases hw with rfl | rfl | rfl | rfl | rfl | rfl | rfl | rfl | rfl | rfl | rfl | rfl <;> exact ⟨_, _, rfl⟩
theorem xNC_kept {s U : State} {args args' : Array Value} (hvm : s.vm.Alike U.vm) : ∀ w ∈ xNC, w.before args s = true → w.before args' U = true := by
  intro w hw h
  obtain ⟨a, b, rfl⟩ := xNC_is w hw
  have h1 := Cond.castAtom_setVm (args := args) hvm (.not (.castable a b)) rfl h
  simp only [Cond.before, Cond.holds, Cond.value, State.vm_setVm] at h1 ⊢
  exact h1
theorem xHs.kept {s U : State} (hvm : s.vm.Alike U.vm) (hk : ∀ (a : Nat) (cell : Cell), s.heap[a]? = some cell → cell.vm.isStatics = true → U.heap[a]? = some cell) (h : xHs s) : xHs U :=
  ⟨fun w hw => xNC_kept hvm w hw (h.1 w hw), ⟨(ls_kept hvm hk h.2.1.1).1, (ls_kept hvm hk h.2.1.1).2 h.2.1.2⟩, (ls_kept hvm hk h.2.2.1).1, (ls_kept hvm hk h.2.2.1).2 h.2.2.2⟩
theorem x_stat {A : Nat → Prop} {H0 H : Heap} {locs : List Loc} (hS : va_S A H0 H locs) (hns : ∀ q, A q → ∀ cell : Cell, H0[q]? = some cell → cell.vm.isStatics = false) : ∀ (a : Nat) (cell : Cell), H0[a]? = some cell → cell.vm.isStatics = true → H[a]? = some cell := fun a cell h1 h2 => by
  rw [hS.2.1 a (Array.getElem?_eq_some_iff.mp h1).1 (fun z => by rw [hns a z cell h1] at h2; cases h2)]
  exact h1
def xLo (l : Launch) : Prop := ∀ e, l.admits e → e.platform.stackTraces = false
def xCx (Ex : Code → State → (Nat → Nat) → (Nat → Prop) → Prop) (cl : List vw_C) (own : String) (Ts : List Cond) (cc : ByteArray) (nL : Nat) (ret : Option FieldType) (p : Program) (l : Launch) (s : State) (m : MethodId) (args : Array Value) (meth : Method) (c : Code) (D : va_G) (cA : Nat → ClassId) (ρ : Nat → Nat) (A : Nat → Prop) : Prop :=
  p.tables.exec = Jvm.exec ∧ c.code = cc ∧ c.maxLocals = nL ∧ meth.sig.returnType = ret ∧ meth.locks = false ∧ s.vm.findClass own = some m.cls ∧ (∀ w ∈ Ts, w.before args s = true) ∧ va_K D cl (xty cA) s ∧ (∀ q, s.heap.size ≤ q → A q) ∧ Ex c s ρ A ∧ xLo l ∧ (∀ q, A q → ∀ cell : Cell, s.heap[q]? = some cell → cell.vm.isStatics = false) ∧ xHs s
def xWW (k0 : Nat × Nat) (cl : List vw_C) (R : Room) (nL : Nat) (p : Program) (l : Launch) (e : Env) (s : State) (m : MethodId) (args : Array Value) (below : List Frame) (meth : Method) (c : Code) (D : va_G) (cA : Nat → ClassId) (ρ : Nat → Nat) (A : Nat → Prop) (Q : xQ) (x : xF) : Prop :=
  ∀ (H : Heap) (locs : List Loc) (ls : Array Slot), lv_has ls nL (xla ρ 0 x.2.1) → va_P D cl (xw ρ cA 0 x.2.2.2.1) H → va_D A (xw ρ cA 0 x.2.2.2.1) → va_S A s.heap H locs →
    W p l e R s m args below meth c H locs (k0.1 + x.2.2.2.2) (k0.2 + 6 * x.2.2.2.2) (xMQ k0 cl D cA ρ A Q s below) (F0 m x.1 ls (x.2.2.1.map (xv ρ)))
def x0 : Code → State → (Nat → Nat) → (Nat → Prop) → Prop := fun c _ _ _ => c.exceptionTable.isEmpty = true
theorem x0_e : ∀ c s ρ A, x0 c s ρ A → c.exceptionTable.isEmpty = true := fun _ _ _ _ h => h
def xSd (k0 : Nat × Nat) (Ex : Code → State → (Nat → Nat) → (Nat → Prop) → Prop) (cl : List vw_C) (own : String) (Ts : List Cond) (cc : ByteArray) (nL : Nat) (ret : Option FieldType) (R : Room) (q : Nat × xOp) : Prop :=
  ∀ (p : Program) (l : Launch) (e : Env) (s : State) (m : MethodId) (args : Array Value) (below : List Frame) (meth : Method) (c : Code) (D : va_G) (cA : Nat → ClassId) (ρ : Nat → Nat) (A : Nat → Prop), xCx Ex cl own Ts cc nL ret p l s m args meth c D cA ρ A →
    ∀ (Q : xQ) (J : xF → Prop) (x : xF), x.1 = q.1 → (∀ y, J y → xWW k0 cl R nL p l e s m args below meth c D cA ρ A Q y) → q.2 x J Q → xWW k0 cl R nL p l e s m args below meth c D cA ρ A Q x
theorem xSd.all {k0 : Nat × Nat} {Ex : Code → State → (Nat → Nat) → (Nat → Prop) → Prop} {cl : List vw_C} {own : String} {Ts : List Cond} {cc : ByteArray} {nL : Nat} {ret : Option FieldType} {R : Room} {tb : xT} (hv : ∀ q ∈ tb, xSd k0 Ex cl own Ts cc nL ret R q)
    {p : Program} {l : Launch} {e : Env} {s : State} {m : MethodId} {args : Array Value} {below : List Frame} {meth : Method} {c : Code} {D : va_G} {cA : Nat → ClassId} {ρ : Nat → Nat} {A : Nat → Prop} (X : xCx Ex cl own Ts cc nL ret p l s m args meth c D cA ρ A)
    {Q : xQ} {x : xF} (h : xG tb Q x) : xWW k0 cl R nL p l e s m args below meth c D cA ρ A Q x := by
  refine h _ fun c' J hJ hs => ?_
  unfold xStep at hs
  split at hs
  · exact hs.elim
  · rename_i op hop
    exact hv _ (xlk_mem hop) p l e s m args below meth c D cA ρ A X Q J c' rfl hJ hs
theorem xval_nil {k0 : Nat × Nat} {Ex : Code → State → (Nat → Nat) → (Nat → Prop) → Prop} {cl : List vw_C} {own : String} {Ts : List Cond} {cc : ByteArray} {nL : Nat} {ret : Option FieldType} {R : Room} : ∀ q ∈ ([] : xT), xSd k0 Ex cl own Ts cc nL ret R q := fun q h => by cases h
theorem xval {k0 : Nat × Nat} {Ex : Code → State → (Nat → Nat) → (Nat → Prop) → Prop} {cl : List vw_C} {own : String} {Ts : List Cond} {cc : ByteArray} {nL : Nat} {ret : Option FieldType} {R : Room} {pc : Nat} {op : xOp} {t : xT} (h : xSd k0 Ex cl own Ts cc nL ret R (pc, op)) (ht : ∀ q ∈ t, xSd k0 Ex cl own Ts cc nL ret R q) : ∀ q ∈ (pc, op) :: t, xSd k0 Ex cl own Ts cc nL ret R q := fun q hq => by
  rcases List.mem_cons.mp hq with rfl | hq
  · exact h
  · exact ht q hq

section XS
variable {k0 : Nat × Nat} {Ex : Code → State → (Nat → Nat) → (Nat → Prop) → Prop} {cl : List vw_C} {own : String} {Ts : List Cond} {cc : ByteArray} {nL : Nat} {ret : Option FieldType} {R : Room} {pc : Nat}

def o_i (v : Int32) (len : Nat) : xOp := fun x k _ => k (x.1 + len, x.2.1, .int v :: x.2.2.1, x.2.2.2.1, x.2.2.2.2)
def o_l (v : Int64) (len : Nat) : xOp := fun x k _ => k (x.1 + len, x.2.1, .long v :: x.2.2.1, x.2.2.2.1, x.2.2.2.2)
theorem s_iconst {z : Int} {v : Int32} (hd : decode cc pc = .ok (.iconst z, 1)) (hv : Int32.ofInt z = v) : xSd k0 Ex cl own Ts cc nL ret R (pc, o_i v 1) := by
  intro p l e s m args below meth c D cA ρ A X Q J x hpc hJ ho H locs ls hl hP hD hS
  obtain ⟨pc', L, st, h, n⟩ := x
  obtain rfl : pc' = pc := hpc
  exact lv_iconst X.1 X.2.1 hd hv (hJ _ ho H locs ls hl hP hD hS)
theorem s_bipush {z : Int} {v : Int32} (hd : decode cc pc = .ok (.bipush z, 2)) (hv : (Int8.ofInt z).toInt32 = v) : xSd k0 Ex cl own Ts cc nL ret R (pc, o_i v 2) := by
  intro p l e s m args below meth c D cA ρ A X Q J x hpc hJ ho H locs ls hl hP hD hS
  obtain ⟨pc', L, st, h, n⟩ := x
  obtain rfl : pc' = pc := hpc
  exact lv_bipush X.1 X.2.1 hd hv (hJ _ ho H locs ls hl hP hD hS)
theorem s_sipush {z : Int} {v : Int32} (hd : decode cc pc = .ok (.sipush z, 3)) (hv : (Int16.ofInt z).toInt32 = v) : xSd k0 Ex cl own Ts cc nL ret R (pc, o_i v 3) := by
  intro p l e s m args below meth c D cA ρ A X Q J x hpc hJ ho H locs ls hl hP hD hS
  obtain ⟨pc', L, st, h, n⟩ := x
  obtain rfl : pc' = pc := hpc
  exact lv_sipush X.1 X.2.1 hd hv (hJ _ ho H locs ls hl hP hD hS)
theorem s_lconst {z : Fin 2} {v : Int64} (hd : decode cc pc = .ok (.lconst z, 1)) (hv : Int64.ofNat (z : Nat) = v) : xSd k0 Ex cl own Ts cc nL ret R (pc, o_l v 1) := by
  intro p l e s m args below meth c D cA ρ A X Q J x hpc hJ ho H locs ls hl hP hD hS
  obtain ⟨pc', L, st, h, n⟩ := x
  obtain rfl : pc' = pc := hpc
  exact lv_lconst X.1 X.2.1 hd hv (hJ _ ho H locs ls hl hP hD hS)
theorem s_ldc {i : Nat} {v : Int32} (hd : decode cc pc = .ok (.ldc i, 2)) (hw : Jvm.Cond.constant own i v ∈ Ts) : xSd k0 Ex cl own Ts cc nL ret R (pc, o_i v 2) := by
  intro p l e s m args below meth c D cA ρ A X Q J x hpc hJ ho H locs ls hl hP hD hS
  obtain ⟨pc', L, st, h, n⟩ := x
  obtain rfl : pc' = pc := hpc
  exact lv_ldc X.1 X.2.1 X.2.2.2.2.2.1 (X.2.2.2.2.2.2.1 _ hw) hd (hJ _ ho H locs ls hl hP hD hS)
theorem s_ldc2 {i : Nat} {v : Int64} (hd : decode cc pc = .ok (.ldc2_w i, 3)) (hw : Jvm.Cond.constantLong own i v ∈ Ts) : xSd k0 Ex cl own Ts cc nL ret R (pc, o_l v 3) := by
  intro p l e s m args below meth c D cA ρ A X Q J x hpc hJ ho H locs ls hl hP hD hS
  obtain ⟨pc', L, st, h, n⟩ := x
  obtain rfl : pc' = pc := hpc
  exact lv_ldc2 X.1 X.2.1 X.2.2.2.2.2.1 (X.2.2.2.2.2.2.1 _ hw) hd (hJ _ ho H locs ls hl hP hD hS)
def o_iload (i len : Nat) : xOp := fun x k _ => match x.2.1[i]? with
  | some (some (.int v)) => k (x.1 + len, x.2.1, .int v :: x.2.2.1, x.2.2.2.1, x.2.2.2.2)
  | _ => False
theorem s_iload_n {f : Fin 4} {i : Nat} (hd : decode cc pc = .ok (.iload_n f, 1)) (hi : (f : Nat) = i) : xSd k0 Ex cl own Ts cc nL ret R (pc, o_iload i 1) := by
  intro p l e s m args below meth c D cA ρ A X Q J x hpc hJ ho H locs ls hl hP hD hS
  obtain ⟨pc', L, st, h, n⟩ := x
  obtain rfl : pc' = pc := hpc
  dsimp only [o_iload] at ho
  split at ho
  · rename_i v hv
    exact lv_iload_n X.1 X.2.1 hd hi (xla_at hl hv) (hJ _ ho H locs ls hl hP hD hS)
  · exact ho.elim
theorem s_iload {i : Nat} (hd : decode cc pc = .ok (.iload i, 2)) : xSd k0 Ex cl own Ts cc nL ret R (pc, o_iload i 2) := by
  intro p l e s m args below meth c D cA ρ A X Q J x hpc hJ ho H locs ls hl hP hD hS
  obtain ⟨pc', L, st, h, n⟩ := x
  obtain rfl : pc' = pc := hpc
  dsimp only [o_iload] at ho
  split at ho
  · rename_i v hv
    exact lv_iload X.1 X.2.1 hd (xla_at hl hv) (hJ _ ho H locs ls hl hP hD hS)
  · exact ho.elim
def o_lload (i len : Nat) : xOp := fun x k _ => match x.2.1[i]? with
  | some (some (.long v)) => k (x.1 + len, x.2.1, .long v :: x.2.2.1, x.2.2.2.1, x.2.2.2.2)
  | _ => False
theorem s_lload_n {f : Fin 4} {i : Nat} (hd : decode cc pc = .ok (.lload_n f, 1)) (hi : (f : Nat) = i) : xSd k0 Ex cl own Ts cc nL ret R (pc, o_lload i 1) := by
  intro p l e s m args below meth c D cA ρ A X Q J x hpc hJ ho H locs ls hl hP hD hS
  obtain ⟨pc', L, st, h, n⟩ := x
  obtain rfl : pc' = pc := hpc
  dsimp only [o_lload] at ho
  split at ho
  · rename_i v hv
    exact lv_lload_n X.1 X.2.1 hd hi (xla_at hl hv) (hJ _ ho H locs ls hl hP hD hS)
  · exact ho.elim
theorem s_lload {i : Nat} (hd : decode cc pc = .ok (.lload i, 2)) : xSd k0 Ex cl own Ts cc nL ret R (pc, o_lload i 2) := by
  intro p l e s m args below meth c D cA ρ A X Q J x hpc hJ ho H locs ls hl hP hD hS
  obtain ⟨pc', L, st, h, n⟩ := x
  obtain rfl : pc' = pc := hpc
  dsimp only [o_lload] at ho
  split at ho
  · rename_i v hv
    exact lv_lload X.1 X.2.1 hd (xla_at hl hv) (hJ _ ho H locs ls hl hP hD hS)
  · exact ho.elim
def o_aload (i len : Nat) : xOp := fun x k _ => match x.2.1[i]? with
  | some (some (.ref v)) => k (x.1 + len, x.2.1, .ref v :: x.2.2.1, x.2.2.2.1, x.2.2.2.2)
  | _ => False
theorem s_aload_n {f : Fin 4} {i : Nat} (hd : decode cc pc = .ok (.aload_n f, 1)) (hi : (f : Nat) = i) : xSd k0 Ex cl own Ts cc nL ret R (pc, o_aload i 1) := by
  intro p l e s m args below meth c D cA ρ A X Q J x hpc hJ ho H locs ls hl hP hD hS
  obtain ⟨pc', L, st, h, n⟩ := x
  obtain rfl : pc' = pc := hpc
  dsimp only [o_aload] at ho
  split at ho
  · rename_i v hv
    exact lv_aload_n X.1 X.2.1 hd hi (xla_at hl hv) (hJ _ ho H locs ls hl hP hD hS)
  · exact ho.elim
theorem s_aload {i : Nat} (hd : decode cc pc = .ok (.aload i, 2)) : xSd k0 Ex cl own Ts cc nL ret R (pc, o_aload i 2) := by
  intro p l e s m args below meth c D cA ρ A X Q J x hpc hJ ho H locs ls hl hP hD hS
  obtain ⟨pc', L, st, h, n⟩ := x
  obtain rfl : pc' = pc := hpc
  dsimp only [o_aload] at ho
  split at ho
  · rename_i v hv
    exact lv_aload X.1 X.2.1 hd (xla_at hl hv) (hJ _ ho H locs ls hl hP hD hS)
  · exact ho.elim
def o_istore (i len : Nat) : xOp := fun x k _ => match x.2.2.1 with
  | .int v :: r => k (x.1 + len, xset i (.int v) 0 x.2.1, r, x.2.2.2.1, x.2.2.2.2)
  | _ => False
theorem s_istore_n {f : Fin 4} {i : Nat} (hd : decode cc pc = .ok (.istore_n f, 1)) (hi : (f : Nat) = i) (hn : i < nL) : xSd k0 Ex cl own Ts cc nL ret R (pc, o_istore i 1) := by
  intro p l e s m args below meth c D cA ρ A X Q J x hpc hJ ho H locs ls hl hP hD hS
  obtain ⟨pc', L, st, h, n⟩ := x
  obtain rfl : pc' = pc := hpc
  dsimp only [o_istore] at ho
  split at ho
  · rename_i v r
    exact lv_istore_n X.1 X.2.1 hd hi hl hn rfl (fun ls' hl' => hJ _ ho H locs ls' (xset_lv (v := .int v) hl') hP hD hS)
  · exact ho.elim
theorem s_istore {i : Nat} (hd : decode cc pc = .ok (.istore i, 2)) (hn : i < nL) : xSd k0 Ex cl own Ts cc nL ret R (pc, o_istore i 2) := by
  intro p l e s m args below meth c D cA ρ A X Q J x hpc hJ ho H locs ls hl hP hD hS
  obtain ⟨pc', L, st, h, n⟩ := x
  obtain rfl : pc' = pc := hpc
  dsimp only [o_istore] at ho
  split at ho
  · rename_i v r
    exact lv_istore X.1 X.2.1 hd hl hn rfl (fun ls' hl' => hJ _ ho H locs ls' (xset_lv (v := .int v) hl') hP hD hS)
  · exact ho.elim
def o_astore (i len : Nat) : xOp := fun x k _ => match x.2.2.1 with
  | .ref v :: r => k (x.1 + len, xset i (.ref v) 0 x.2.1, r, x.2.2.2.1, x.2.2.2.2)
  | _ => False
theorem s_astore_n {f : Fin 4} {i : Nat} (hd : decode cc pc = .ok (.astore_n f, 1)) (hi : (f : Nat) = i) (hn : i < nL) : xSd k0 Ex cl own Ts cc nL ret R (pc, o_astore i 1) := by
  intro p l e s m args below meth c D cA ρ A X Q J x hpc hJ ho H locs ls hl hP hD hS
  obtain ⟨pc', L, st, h, n⟩ := x
  obtain rfl : pc' = pc := hpc
  dsimp only [o_astore] at ho
  split at ho
  · rename_i v r
    exact lv_astore_n X.1 X.2.1 hd hi hl hn rfl (fun ls' hl' => hJ _ ho H locs ls' (xset_lv (v := .ref v) hl') hP hD hS)
  · exact ho.elim
theorem s_astore {i : Nat} (hd : decode cc pc = .ok (.astore i, 2)) (hn : i < nL) : xSd k0 Ex cl own Ts cc nL ret R (pc, o_astore i 2) := by
  intro p l e s m args below meth c D cA ρ A X Q J x hpc hJ ho H locs ls hl hP hD hS
  obtain ⟨pc', L, st, h, n⟩ := x
  obtain rfl : pc' = pc := hpc
  dsimp only [o_astore] at ho
  split at ho
  · rename_i v r
    exact lv_astore X.1 X.2.1 hd hl hn rfl (fun ls' hl' => hJ _ ho H locs ls' (xset_lv (v := .ref v) hl') hP hD hS)
  · exact ho.elim
def o_lstore (i len : Nat) : xOp := fun x k _ => match x.2.2.1 with
  | .long v :: r => k (x.1 + len, xset2 i (.long v) 0 x.2.1, r, x.2.2.2.1, x.2.2.2.2)
  | _ => False
theorem s_lstore_n {f : Fin 4} {i : Nat} (hd : decode cc pc = .ok (.lstore_n f, 1)) (hi : (f : Nat) = i) (hn : i + 1 < nL) : xSd k0 Ex cl own Ts cc nL ret R (pc, o_lstore i 1) := by
  intro p l e s m args below meth c D cA ρ A X Q J x hpc hJ ho H locs ls hl hP hD hS
  obtain ⟨pc', L, st, h, n⟩ := x
  obtain rfl : pc' = pc := hpc
  dsimp only [o_lstore] at ho
  split at ho
  · rename_i v r
    exact lv_lstore_n X.1 X.2.1 hd hi hl hn rfl (fun ls' hl' => hJ _ ho H locs ls' (xset2_lv (v := .long v) hl') hP hD hS)
  · exact ho.elim
theorem s_lstore {i : Nat} (hd : decode cc pc = .ok (.lstore i, 2)) (hn : i + 1 < nL) : xSd k0 Ex cl own Ts cc nL ret R (pc, o_lstore i 2) := by
  intro p l e s m args below meth c D cA ρ A X Q J x hpc hJ ho H locs ls hl hP hD hS
  obtain ⟨pc', L, st, h, n⟩ := x
  obtain rfl : pc' = pc := hpc
  dsimp only [o_lstore] at ho
  split at ho
  · rename_i v r
    exact lv_lstore X.1 X.2.1 hd hl hn rfl (fun ls' hl' => hJ _ ho H locs ls' (xset2_lv (v := .long v) hl') hP hD hS)
  · exact ho.elim
def o_iinc (i : Nat) (z : Int32) : xOp := fun x k _ => match x.2.1[i]? with
  | some (some (.int v)) => k (x.1 + 3, xset i (.int (v + z)) 0 x.2.1, x.2.2.1, x.2.2.2.1, x.2.2.2.2)
  | _ => False
theorem s_iinc {i : Nat} {z : Int} {w : Int32} (hd : decode cc pc = .ok (.iinc i z, 3)) (hw : Int32.ofInt z = w) (hn : i < nL) : xSd k0 Ex cl own Ts cc nL ret R (pc, o_iinc i w) := by
  intro p l e s m args below meth c D cA ρ A X Q J x hpc hJ ho H locs ls hl hP hD hS
  obtain ⟨pc', L, st, h, n⟩ := x
  obtain rfl : pc' = pc := hpc
  subst hw
  dsimp only [o_iinc] at ho
  split at ho
  · rename_i v hv
    obtain ⟨j, hj⟩ := List.getElem?_of_mem ((xla_mem (ρ := ρ) L 0 (i, .int v)).mpr ⟨i, .int v, hv, by simp [xv]⟩)
    exact lv_iinc X.1 X.2.1 hd hl hj rfl hn rfl (fun ls' hl' => hJ _ ho H locs ls' (xset_lv (v := .int _) hl') hP hD hS)
  · exact ho.elim
def o_ii (f : Int32 → Int32 → Int32) : xOp := fun x k _ => match x.2.2.1 with
  | .int b :: .int a :: r => k (x.1 + 1, x.2.1, .int (f a b) :: r, x.2.2.2.1, x.2.2.2.2)
  | _ => False
def o_ll (f : Int64 → Int64 → Int64) : xOp := fun x k _ => match x.2.2.1 with
  | .long b :: .long a :: r => k (x.1 + 1, x.2.1, .long (f a b) :: r, x.2.2.2.1, x.2.2.2.2)
  | _ => False
theorem s_iadd (hd : decode cc pc = .ok (.iadd, 1)) : xSd k0 Ex cl own Ts cc nL ret R (pc, o_ii (fun a b => a + b)) := by
  intro p l e s m args below meth c D cA ρ A X Q J x hpc hJ ho H locs ls hl hP hD hS
  obtain ⟨pc', L, st, h, n⟩ := x
  obtain rfl : pc' = pc := hpc
  dsimp only [o_ii] at ho
  split at ho
  · rename_i b a r
    exact lv_iadd X.1 X.2.1 hd (hJ _ ho H locs ls hl hP hD hS)
  · exact ho.elim
theorem s_isub (hd : decode cc pc = .ok (.isub, 1)) : xSd k0 Ex cl own Ts cc nL ret R (pc, o_ii (fun a b => a - b)) := by
  intro p l e s m args below meth c D cA ρ A X Q J x hpc hJ ho H locs ls hl hP hD hS
  obtain ⟨pc', L, st, h, n⟩ := x
  obtain rfl : pc' = pc := hpc
  dsimp only [o_ii] at ho
  split at ho
  · rename_i b a r
    exact lv_isub X.1 X.2.1 hd (hJ _ ho H locs ls hl hP hD hS)
  · exact ho.elim
theorem s_imul (hd : decode cc pc = .ok (.imul, 1)) : xSd k0 Ex cl own Ts cc nL ret R (pc, o_ii (fun a b => a * b)) := by
  intro p l e s m args below meth c D cA ρ A X Q J x hpc hJ ho H locs ls hl hP hD hS
  obtain ⟨pc', L, st, h, n⟩ := x
  obtain rfl : pc' = pc := hpc
  dsimp only [o_ii] at ho
  split at ho
  · rename_i b a r
    exact lv_imul X.1 X.2.1 hd (hJ _ ho H locs ls hl hP hD hS)
  · exact ho.elim
theorem s_iand (hd : decode cc pc = .ok (.iand, 1)) : xSd k0 Ex cl own Ts cc nL ret R (pc, o_ii (fun a b => a &&& b)) := by
  intro p l e s m args below meth c D cA ρ A X Q J x hpc hJ ho H locs ls hl hP hD hS
  obtain ⟨pc', L, st, h, n⟩ := x
  obtain rfl : pc' = pc := hpc
  dsimp only [o_ii] at ho
  split at ho
  · rename_i b a r
    exact lv_iand X.1 X.2.1 hd (hJ _ ho H locs ls hl hP hD hS)
  · exact ho.elim
theorem s_ior (hd : decode cc pc = .ok (.ior, 1)) : xSd k0 Ex cl own Ts cc nL ret R (pc, o_ii (fun a b => a ||| b)) := by
  intro p l e s m args below meth c D cA ρ A X Q J x hpc hJ ho H locs ls hl hP hD hS
  obtain ⟨pc', L, st, h, n⟩ := x
  obtain rfl : pc' = pc := hpc
  dsimp only [o_ii] at ho
  split at ho
  · rename_i b a r
    exact lv_ior X.1 X.2.1 hd (hJ _ ho H locs ls hl hP hD hS)
  · exact ho.elim
theorem s_ixor (hd : decode cc pc = .ok (.ixor, 1)) : xSd k0 Ex cl own Ts cc nL ret R (pc, o_ii (fun a b => a ^^^ b)) := by
  intro p l e s m args below meth c D cA ρ A X Q J x hpc hJ ho H locs ls hl hP hD hS
  obtain ⟨pc', L, st, h, n⟩ := x
  obtain rfl : pc' = pc := hpc
  dsimp only [o_ii] at ho
  split at ho
  · rename_i b a r
    exact lv_ixor X.1 X.2.1 hd (hJ _ ho H locs ls hl hP hD hS)
  · exact ho.elim
theorem s_ishl (hd : decode cc pc = .ok (.ishl, 1)) : xSd k0 Ex cl own Ts cc nL ret R (pc, o_ii (fun a b => a <<< (b &&& 31))) := by
  intro p l e s m args below meth c D cA ρ A X Q J x hpc hJ ho H locs ls hl hP hD hS
  obtain ⟨pc', L, st, h, n⟩ := x
  obtain rfl : pc' = pc := hpc
  dsimp only [o_ii] at ho
  split at ho
  · rename_i b a r
    exact lv_ishl X.1 X.2.1 hd (hJ _ ho H locs ls hl hP hD hS)
  · exact ho.elim
theorem s_ishr (hd : decode cc pc = .ok (.ishr, 1)) : xSd k0 Ex cl own Ts cc nL ret R (pc, o_ii (fun a b => a >>> (b &&& 31))) := by
  intro p l e s m args below meth c D cA ρ A X Q J x hpc hJ ho H locs ls hl hP hD hS
  obtain ⟨pc', L, st, h, n⟩ := x
  obtain rfl : pc' = pc := hpc
  dsimp only [o_ii] at ho
  split at ho
  · rename_i b a r
    exact lv_ishr X.1 X.2.1 hd (hJ _ ho H locs ls hl hP hD hS)
  · exact ho.elim
theorem s_ladd (hd : decode cc pc = .ok (.ladd, 1)) : xSd k0 Ex cl own Ts cc nL ret R (pc, o_ll (fun a b => a + b)) := by
  intro p l e s m args below meth c D cA ρ A X Q J x hpc hJ ho H locs ls hl hP hD hS
  obtain ⟨pc', L, st, h, n⟩ := x
  obtain rfl : pc' = pc := hpc
  dsimp only [o_ll] at ho
  split at ho
  · rename_i b a r
    exact lv_ladd X.1 X.2.1 hd (hJ _ ho H locs ls hl hP hD hS)
  · exact ho.elim
theorem s_lsub (hd : decode cc pc = .ok (.lsub, 1)) : xSd k0 Ex cl own Ts cc nL ret R (pc, o_ll (fun a b => a - b)) := by
  intro p l e s m args below meth c D cA ρ A X Q J x hpc hJ ho H locs ls hl hP hD hS
  obtain ⟨pc', L, st, h, n⟩ := x
  obtain rfl : pc' = pc := hpc
  dsimp only [o_ll] at ho
  split at ho
  · rename_i b a r
    exact lv_lsub X.1 X.2.1 hd (hJ _ ho H locs ls hl hP hD hS)
  · exact ho.elim
theorem s_lmul (hd : decode cc pc = .ok (.lmul, 1)) : xSd k0 Ex cl own Ts cc nL ret R (pc, o_ll (fun a b => a * b)) := by
  intro p l e s m args below meth c D cA ρ A X Q J x hpc hJ ho H locs ls hl hP hD hS
  obtain ⟨pc', L, st, h, n⟩ := x
  obtain rfl : pc' = pc := hpc
  dsimp only [o_ll] at ho
  split at ho
  · rename_i b a r
    exact lv_lmul X.1 X.2.1 hd (hJ _ ho H locs ls hl hP hD hS)
  · exact ho.elim
theorem s_land (hd : decode cc pc = .ok (.land, 1)) : xSd k0 Ex cl own Ts cc nL ret R (pc, o_ll (fun a b => a &&& b)) := by
  intro p l e s m args below meth c D cA ρ A X Q J x hpc hJ ho H locs ls hl hP hD hS
  obtain ⟨pc', L, st, h, n⟩ := x
  obtain rfl : pc' = pc := hpc
  dsimp only [o_ll] at ho
  split at ho
  · rename_i b a r
    exact lv_land X.1 X.2.1 hd (hJ _ ho H locs ls hl hP hD hS)
  · exact ho.elim
theorem s_lor (hd : decode cc pc = .ok (.lor, 1)) : xSd k0 Ex cl own Ts cc nL ret R (pc, o_ll (fun a b => a ||| b)) := by
  intro p l e s m args below meth c D cA ρ A X Q J x hpc hJ ho H locs ls hl hP hD hS
  obtain ⟨pc', L, st, h, n⟩ := x
  obtain rfl : pc' = pc := hpc
  dsimp only [o_ll] at ho
  split at ho
  · rename_i b a r
    exact lv_lor X.1 X.2.1 hd (hJ _ ho H locs ls hl hP hD hS)
  · exact ho.elim
theorem s_lxor (hd : decode cc pc = .ok (.lxor, 1)) : xSd k0 Ex cl own Ts cc nL ret R (pc, o_ll (fun a b => a ^^^ b)) := by
  intro p l e s m args below meth c D cA ρ A X Q J x hpc hJ ho H locs ls hl hP hD hS
  obtain ⟨pc', L, st, h, n⟩ := x
  obtain rfl : pc' = pc := hpc
  dsimp only [o_ll] at ho
  split at ho
  · rename_i b a r
    exact lv_lxor X.1 X.2.1 hd (hJ _ ho H locs ls hl hP hD hS)
  · exact ho.elim
def o_dr (f : Int32 → Int32 → Int32) : xOp := fun x k _ => match x.2.2.1 with
  | .int b :: .int a :: r => ¬ b = 0 ∧ k (x.1 + 1, x.2.1, .int (f a b) :: r, x.2.2.2.1, x.2.2.2.2)
  | _ => False
theorem s_idiv (hd : decode cc pc = .ok (.idiv, 1)) : xSd k0 Ex cl own Ts cc nL ret R (pc, o_dr (fun a b => a / b)) := by
  intro p l e s m args below meth c D cA ρ A X Q J x hpc hJ ho H locs ls hl hP hD hS
  obtain ⟨pc', L, st, h, n⟩ := x
  obtain rfl : pc' = pc := hpc
  dsimp only [o_dr] at ho
  split at ho
  · rename_i b a r
    exact lv_idiv X.1 X.2.1 hd ho.1 (hJ _ ho.2 H locs ls hl hP hD hS)
  · exact ho.elim
theorem s_irem (hd : decode cc pc = .ok (.irem, 1)) : xSd k0 Ex cl own Ts cc nL ret R (pc, o_dr (fun a b => a - a / b * b)) := by
  intro p l e s m args below meth c D cA ρ A X Q J x hpc hJ ho H locs ls hl hP hD hS
  obtain ⟨pc', L, st, h, n⟩ := x
  obtain rfl : pc' = pc := hpc
  dsimp only [o_dr] at ho
  split at ho
  · rename_i b a r
    exact lv_irem X.1 X.2.1 hd ho.1 (hJ _ ho.2 H locs ls hl hP hD hS)
  · exact ho.elim
def xushr (a : Int64) (b : Int32) : Int64 := (a.toUInt64 >>> (b.toInt64.toUInt64 &&& Int64.toUInt64 63)).toInt64
def xshl (a : Int64) (b : Int32) : Int64 := a <<< (b.toInt64 &&& 63)
def o_li (f : Int64 → Int32 → Int64) : xOp := fun x k _ => match x.2.2.1 with
  | .int b :: .long a :: r => k (x.1 + 1, x.2.1, .long (f a b) :: r, x.2.2.2.1, x.2.2.2.2)
  | _ => False
theorem s_lushr (hd : decode cc pc = .ok (.lushr, 1)) : xSd k0 Ex cl own Ts cc nL ret R (pc, o_li xushr) := by
  intro p l e s m args below meth c D cA ρ A X Q J x hpc hJ ho H locs ls hl hP hD hS
  obtain ⟨pc', L, st, h, n⟩ := x
  obtain rfl : pc' = pc := hpc
  dsimp only [o_li] at ho
  split at ho
  · rename_i b a r
    exact lv_lushr X.1 X.2.1 hd rfl (hJ _ ho H locs ls hl hP hD hS)
  · exact ho.elim
theorem s_lshl (hd : decode cc pc = .ok (.lshl, 1)) : xSd k0 Ex cl own Ts cc nL ret R (pc, o_li xshl) := by
  intro p l e s m args below meth c D cA ρ A X Q J x hpc hJ ho H locs ls hl hP hD hS
  obtain ⟨pc', L, st, h, n⟩ := x
  obtain rfl : pc' = pc := hpc
  dsimp only [o_li] at ho
  split at ho
  · rename_i b a r
    exact lv_lshl X.1 X.2.1 hd rfl (hJ _ ho H locs ls hl hP hD hS)
  · exact ho.elim
def o_i2l : xOp := fun x k _ => match x.2.2.1 with
  | .int a :: r => k (x.1 + 1, x.2.1, .long a.toInt64 :: r, x.2.2.2.1, x.2.2.2.2)
  | _ => False
theorem s_i2l (hd : decode cc pc = .ok (.i2l, 1)) : xSd k0 Ex cl own Ts cc nL ret R (pc, o_i2l) := by
  intro p l e s m args below meth c D cA ρ A X Q J x hpc hJ ho H locs ls hl hP hD hS
  obtain ⟨pc', L, st, h, n⟩ := x
  obtain rfl : pc' = pc := hpc
  dsimp only [o_i2l] at ho
  split at ho
  · rename_i a r
    exact lv_i2l X.1 X.2.1 hd rfl (hJ _ ho H locs ls hl hP hD hS)
  · exact ho.elim
def o_l2i : xOp := fun x k _ => match x.2.2.1 with
  | .long a :: r => k (x.1 + 1, x.2.1, .int a.toInt32 :: r, x.2.2.2.1, x.2.2.2.2)
  | _ => False
theorem s_l2i (hd : decode cc pc = .ok (.l2i, 1)) : xSd k0 Ex cl own Ts cc nL ret R (pc, o_l2i) := by
  intro p l e s m args below meth c D cA ρ A X Q J x hpc hJ ho H locs ls hl hP hD hS
  obtain ⟨pc', L, st, h, n⟩ := x
  obtain rfl : pc' = pc := hpc
  dsimp only [o_l2i] at ho
  split at ho
  · rename_i a r
    exact lv_l2i X.1 X.2.1 hd rfl (hJ _ ho H locs ls hl hP hD hS)
  · exact ho.elim
def o_lcmp : xOp := fun x k _ => match x.2.2.1 with
  | .long b :: .long a :: r => k (x.1 + 1, x.2.1, .int (lg_cmp a b) :: r, x.2.2.2.1, x.2.2.2.2)
  | _ => False
theorem s_lcmp (hd : decode cc pc = .ok (.lcmp, 1)) : xSd k0 Ex cl own Ts cc nL ret R (pc, o_lcmp) := by
  intro p l e s m args below meth c D cA ρ A X Q J x hpc hJ ho H locs ls hl hP hD hS
  obtain ⟨pc', L, st, h, n⟩ := x
  obtain rfl : pc' = pc := hpc
  dsimp only [o_lcmp] at ho
  split at ho
  · rename_i b a r
    exact W.lcmp X.1 X.2.1 hd (hJ _ ho H locs ls hl hP hD hS)
  · exact ho.elim
def o_if (c : Int32 → Prop) (tgt : Nat) : xOp := fun x k _ => match x.2.2.1 with
  | .int a :: r => (c a → k (tgt, x.2.1, r, x.2.2.2.1, x.2.2.2.2)) ∧ (¬ c a → k (x.1 + 3, x.2.1, r, x.2.2.2.1, x.2.2.2.2))
  | _ => False
def o_ic (c : Int32 → Int32 → Prop) (tgt : Nat) : xOp := fun x k _ => match x.2.2.1 with
  | .int b :: .int a :: r => (c a b → k (tgt, x.2.1, r, x.2.2.2.1, x.2.2.2.2)) ∧ (¬ c a b → k (x.1 + 3, x.2.1, r, x.2.2.2.1, x.2.2.2.2))
  | _ => False
def o_ifn (c : Int32 → Prop) (tgt : Nat) : xOp := fun x k _ => match x.2.2.1 with
  | .int a :: r => (c a → k (x.1 + 3, x.2.1, r, x.2.2.2.1, x.2.2.2.2)) ∧ (¬ c a → k (tgt, x.2.1, r, x.2.2.2.1, x.2.2.2.2))
  | _ => False
def o_icn (c : Int32 → Int32 → Prop) (tgt : Nat) : xOp := fun x k _ => match x.2.2.1 with
  | .int b :: .int a :: r => (c a b → k (x.1 + 3, x.2.1, r, x.2.2.2.1, x.2.2.2.2)) ∧ (¬ c a b → k (tgt, x.2.1, r, x.2.2.2.1, x.2.2.2.2))
  | _ => False
theorem s_ifeq {z : Int} {tgt : Nat} (hd : decode cc pc = .ok (.ifCond .eq z, 3)) (ht : (pc : Int) + z = (tgt : Int)) : xSd k0 Ex cl own Ts cc nL ret R (pc, o_if (fun a => a = 0) tgt) := by
  intro p l e s m args below meth c D cA ρ A X Q J x hpc hJ ho H locs ls hl hP hD hS
  obtain ⟨pc', L, st, h, n⟩ := x
  obtain rfl : pc' = pc := hpc
  dsimp only [o_if] at ho
  split at ho
  · rename_i a r
    exact lv_if_eq X.1 X.2.1 hd ht (fun q => hJ _ (ho.1 q) H locs ls hl hP hD hS) (fun q => hJ _ (ho.2 q) H locs ls hl hP hD hS)
  · exact ho.elim
theorem s_iceq {z : Int} {tgt : Nat} (hd : decode cc pc = .ok (.if_icmp .eq z, 3)) (ht : (pc : Int) + z = (tgt : Int)) : xSd k0 Ex cl own Ts cc nL ret R (pc, o_ic (fun a b => a = b) tgt) := by
  intro p l e s m args below meth c D cA ρ A X Q J x hpc hJ ho H locs ls hl hP hD hS
  obtain ⟨pc', L, st, h, n⟩ := x
  obtain rfl : pc' = pc := hpc
  dsimp only [o_ic] at ho
  split at ho
  · rename_i b a r
    exact lv_icmp_eq X.1 X.2.1 hd ht (fun q => hJ _ (ho.1 q) H locs ls hl hP hD hS) (fun q => hJ _ (ho.2 q) H locs ls hl hP hD hS)
  · exact ho.elim
theorem s_iflt {z : Int} {tgt : Nat} (hd : decode cc pc = .ok (.ifCond .lt z, 3)) (ht : (pc : Int) + z = (tgt : Int)) : xSd k0 Ex cl own Ts cc nL ret R (pc, o_if (fun a => a < 0) tgt) := by
  intro p l e s m args below meth c D cA ρ A X Q J x hpc hJ ho H locs ls hl hP hD hS
  obtain ⟨pc', L, st, h, n⟩ := x
  obtain rfl : pc' = pc := hpc
  dsimp only [o_if] at ho
  split at ho
  · rename_i a r
    exact lv_if_lt X.1 X.2.1 hd ht (fun q => hJ _ (ho.1 q) H locs ls hl hP hD hS) (fun q => hJ _ (ho.2 q) H locs ls hl hP hD hS)
  · exact ho.elim
theorem s_iclt {z : Int} {tgt : Nat} (hd : decode cc pc = .ok (.if_icmp .lt z, 3)) (ht : (pc : Int) + z = (tgt : Int)) : xSd k0 Ex cl own Ts cc nL ret R (pc, o_ic (fun a b => a < b) tgt) := by
  intro p l e s m args below meth c D cA ρ A X Q J x hpc hJ ho H locs ls hl hP hD hS
  obtain ⟨pc', L, st, h, n⟩ := x
  obtain rfl : pc' = pc := hpc
  dsimp only [o_ic] at ho
  split at ho
  · rename_i b a r
    exact lv_icmp_lt X.1 X.2.1 hd ht (fun q => hJ _ (ho.1 q) H locs ls hl hP hD hS) (fun q => hJ _ (ho.2 q) H locs ls hl hP hD hS)
  · exact ho.elim
theorem s_ifge {z : Int} {tgt : Nat} (hd : decode cc pc = .ok (.ifCond .ge z, 3)) (ht : (pc : Int) + z = (tgt : Int)) : xSd k0 Ex cl own Ts cc nL ret R (pc, o_if (fun a => 0 ≤ a) tgt) := by
  intro p l e s m args below meth c D cA ρ A X Q J x hpc hJ ho H locs ls hl hP hD hS
  obtain ⟨pc', L, st, h, n⟩ := x
  obtain rfl : pc' = pc := hpc
  dsimp only [o_if] at ho
  split at ho
  · rename_i a r
    exact lv_if_ge X.1 X.2.1 hd ht (fun q => hJ _ (ho.1 q) H locs ls hl hP hD hS) (fun q => hJ _ (ho.2 q) H locs ls hl hP hD hS)
  · exact ho.elim
theorem s_icge {z : Int} {tgt : Nat} (hd : decode cc pc = .ok (.if_icmp .ge z, 3)) (ht : (pc : Int) + z = (tgt : Int)) : xSd k0 Ex cl own Ts cc nL ret R (pc, o_ic (fun a b => b ≤ a) tgt) := by
  intro p l e s m args below meth c D cA ρ A X Q J x hpc hJ ho H locs ls hl hP hD hS
  obtain ⟨pc', L, st, h, n⟩ := x
  obtain rfl : pc' = pc := hpc
  dsimp only [o_ic] at ho
  split at ho
  · rename_i b a r
    exact lv_icmp_ge X.1 X.2.1 hd ht (fun q => hJ _ (ho.1 q) H locs ls hl hP hD hS) (fun q => hJ _ (ho.2 q) H locs ls hl hP hD hS)
  · exact ho.elim
theorem s_ifgt {z : Int} {tgt : Nat} (hd : decode cc pc = .ok (.ifCond .gt z, 3)) (ht : (pc : Int) + z = (tgt : Int)) : xSd k0 Ex cl own Ts cc nL ret R (pc, o_if (fun a => 0 < a) tgt) := by
  intro p l e s m args below meth c D cA ρ A X Q J x hpc hJ ho H locs ls hl hP hD hS
  obtain ⟨pc', L, st, h, n⟩ := x
  obtain rfl : pc' = pc := hpc
  dsimp only [o_if] at ho
  split at ho
  · rename_i a r
    exact lv_if_gt X.1 X.2.1 hd ht (fun q => hJ _ (ho.1 q) H locs ls hl hP hD hS) (fun q => hJ _ (ho.2 q) H locs ls hl hP hD hS)
  · exact ho.elim
theorem s_icgt {z : Int} {tgt : Nat} (hd : decode cc pc = .ok (.if_icmp .gt z, 3)) (ht : (pc : Int) + z = (tgt : Int)) : xSd k0 Ex cl own Ts cc nL ret R (pc, o_ic (fun a b => b < a) tgt) := by
  intro p l e s m args below meth c D cA ρ A X Q J x hpc hJ ho H locs ls hl hP hD hS
  obtain ⟨pc', L, st, h, n⟩ := x
  obtain rfl : pc' = pc := hpc
  dsimp only [o_ic] at ho
  split at ho
  · rename_i b a r
    exact lv_icmp_gt X.1 X.2.1 hd ht (fun q => hJ _ (ho.1 q) H locs ls hl hP hD hS) (fun q => hJ _ (ho.2 q) H locs ls hl hP hD hS)
  · exact ho.elim
theorem s_ifle {z : Int} {tgt : Nat} (hd : decode cc pc = .ok (.ifCond .le z, 3)) (ht : (pc : Int) + z = (tgt : Int)) : xSd k0 Ex cl own Ts cc nL ret R (pc, o_if (fun a => a ≤ 0) tgt) := by
  intro p l e s m args below meth c D cA ρ A X Q J x hpc hJ ho H locs ls hl hP hD hS
  obtain ⟨pc', L, st, h, n⟩ := x
  obtain rfl : pc' = pc := hpc
  dsimp only [o_if] at ho
  split at ho
  · rename_i a r
    exact lv_if_le X.1 X.2.1 hd ht (fun q => hJ _ (ho.1 q) H locs ls hl hP hD hS) (fun q => hJ _ (ho.2 q) H locs ls hl hP hD hS)
  · exact ho.elim
theorem s_icle {z : Int} {tgt : Nat} (hd : decode cc pc = .ok (.if_icmp .le z, 3)) (ht : (pc : Int) + z = (tgt : Int)) : xSd k0 Ex cl own Ts cc nL ret R (pc, o_ic (fun a b => a ≤ b) tgt) := by
  intro p l e s m args below meth c D cA ρ A X Q J x hpc hJ ho H locs ls hl hP hD hS
  obtain ⟨pc', L, st, h, n⟩ := x
  obtain rfl : pc' = pc := hpc
  dsimp only [o_ic] at ho
  split at ho
  · rename_i b a r
    exact lv_icmp_le X.1 X.2.1 hd ht (fun q => hJ _ (ho.1 q) H locs ls hl hP hD hS) (fun q => hJ _ (ho.2 q) H locs ls hl hP hD hS)
  · exact ho.elim
theorem s_ifne {z : Int} {tgt : Nat} (hd : decode cc pc = .ok (.ifCond .ne z, 3)) (ht : (pc : Int) + z = (tgt : Int)) : xSd k0 Ex cl own Ts cc nL ret R (pc, o_ifn (fun a => a = 0) tgt) := by
  intro p l e s m args below meth c D cA ρ A X Q J x hpc hJ ho H locs ls hl hP hD hS
  obtain ⟨pc', L, st, h, n⟩ := x
  obtain rfl : pc' = pc := hpc
  dsimp only [o_ifn] at ho
  split at ho
  · rename_i a r
    exact lv_if_ne X.1 X.2.1 hd ht (fun q => hJ _ (ho.2 q) H locs ls hl hP hD hS) (fun q => hJ _ (ho.1 q) H locs ls hl hP hD hS)
  · exact ho.elim
theorem s_icne {z : Int} {tgt : Nat} (hd : decode cc pc = .ok (.if_icmp .ne z, 3)) (ht : (pc : Int) + z = (tgt : Int)) : xSd k0 Ex cl own Ts cc nL ret R (pc, o_icn (fun a b => a = b) tgt) := by
  intro p l e s m args below meth c D cA ρ A X Q J x hpc hJ ho H locs ls hl hP hD hS
  obtain ⟨pc', L, st, h, n⟩ := x
  obtain rfl : pc' = pc := hpc
  dsimp only [o_icn] at ho
  split at ho
  · rename_i b a r
    exact lv_icmp_ne X.1 X.2.1 hd ht (fun q => hJ _ (ho.2 q) H locs ls hl hP hD hS) (fun q => hJ _ (ho.1 q) H locs ls hl hP hD hS)
  · exact ho.elim
def o_goto (tgt : Nat) : xOp := fun x k _ => k (tgt, x.2.1, x.2.2.1, x.2.2.2.1, x.2.2.2.2)
theorem s_goto {z : Int} {tgt : Nat} (hd : decode cc pc = .ok (.goto z, 3)) (ht : (pc : Int) + z = (tgt : Int)) : xSd k0 Ex cl own Ts cc nL ret R (pc, o_goto tgt) := by
  intro p l e s m args below meth c D cA ρ A X Q J x hpc hJ ho H locs ls hl hP hD hS
  obtain ⟨pc', L, st, h, n⟩ := x
  obtain rfl : pc' = pc := hpc
  exact lv_goto X.1 X.2.1 hd ht (hJ _ ho H locs ls hl hP hD hS)
def o_dup : xOp := fun x k _ => match x.2.2.1 with
  | a :: r => bif Nat.beq a.category 1 then k (x.1 + 1, x.2.1, a :: a :: r, x.2.2.2.1, x.2.2.2.2) else False
  | _ => False
def o_pop : xOp := fun x k _ => match x.2.2.1 with
  | a :: r => bif Nat.beq a.category 1 then k (x.1 + 1, x.2.1, r, x.2.2.2.1, x.2.2.2.2) else False
  | _ => False
def o_dupx1 : xOp := fun x k _ => match x.2.2.1 with
  | a :: b :: r => bif Nat.beq a.category 1 && Nat.beq b.category 1 then k (x.1 + 1, x.2.1, a :: b :: a :: r, x.2.2.2.1, x.2.2.2.2) else False
  | _ => False
def o_dup2 : xOp := fun x k _ => match x.2.2.1 with
  | a :: b :: r => bif Nat.beq a.category 1 && Nat.beq b.category 1 then k (x.1 + 1, x.2.1, a :: b :: a :: b :: r, x.2.2.2.1, x.2.2.2.2) else False
  | _ => False
theorem bif_t {b : Bool} {P : Prop} (h : bif b then P else False) : b = true ∧ P := by
  cases b with
  | true => exact ⟨rfl, h⟩
  | false => exact h.elim
theorem cat1 {v : Value} {ρ : Nat → Nat} (h : Nat.beq v.category 1 = true) : (xv ρ v).category = 1 := by rw [xv_cat]; exact Nat.eq_of_beq_eq_true h
theorem s_dup (hd : decode cc pc = .ok (.dup, 1)) : xSd k0 Ex cl own Ts cc nL ret R (pc, o_dup) := by
  intro p l e s m args below meth c D cA ρ A X Q J x hpc hJ ho H locs ls hl hP hD hS
  obtain ⟨pc', L, st, h, n⟩ := x
  obtain rfl : pc' = pc := hpc
  dsimp only [o_dup] at ho
  split at ho
  · rename_i a r
    exact lv_dup X.1 X.2.1 hd (cat1 (bif_t ho).1) (hJ _ (bif_t ho).2 H locs ls hl hP hD hS)
  · exact ho.elim
theorem s_pop (hd : decode cc pc = .ok (.pop, 1)) : xSd k0 Ex cl own Ts cc nL ret R (pc, o_pop) := by
  intro p l e s m args below meth c D cA ρ A X Q J x hpc hJ ho H locs ls hl hP hD hS
  obtain ⟨pc', L, st, h, n⟩ := x
  obtain rfl : pc' = pc := hpc
  dsimp only [o_pop] at ho
  split at ho
  · rename_i a r
    exact lv_pop X.1 X.2.1 hd (cat1 (bif_t ho).1) (hJ _ (bif_t ho).2 H locs ls hl hP hD hS)
  · exact ho.elim
theorem s_dupx1 (hd : decode cc pc = .ok (.dup_x1, 1)) : xSd k0 Ex cl own Ts cc nL ret R (pc, o_dupx1) := by
  intro p l e s m args below meth c D cA ρ A X Q J x hpc hJ ho H locs ls hl hP hD hS
  obtain ⟨pc', L, st, h, n⟩ := x
  obtain rfl : pc' = pc := hpc
  dsimp only [o_dupx1] at ho
  split at ho
  · rename_i a b r
    obtain ⟨h1, h2⟩ := bif_t ho
    rw [Bool.and_eq_true] at h1
    exact lv_dup_x1 X.1 X.2.1 hd (cat1 h1.1) (cat1 h1.2) (hJ _ h2 H locs ls hl hP hD hS)
  · exact ho.elim
theorem s_dup2 (hd : decode cc pc = .ok (.dup2, 1)) : xSd k0 Ex cl own Ts cc nL ret R (pc, o_dup2) := by
  intro p l e s m args below meth c D cA ρ A X Q J x hpc hJ ho H locs ls hl hP hD hS
  obtain ⟨pc', L, st, h, n⟩ := x
  obtain rfl : pc' = pc := hpc
  dsimp only [o_dup2] at ho
  split at ho
  · rename_i a b r
    obtain ⟨h1, h2⟩ := bif_t ho
    rw [Bool.and_eq_true] at h1
    exact lv_dup2_11 X.1 X.2.1 hd (cat1 h1.1) (cat1 h1.2) (hJ _ h2 H locs ls hl hP hD hS)
  · exact ho.elim
def o_iaload : xOp := fun x k _ => match x.2.2.1 with
  | .int i :: .ref a :: r => match x.2.2.2.1[a]? with
    | some (.inl (0, (N, .inl f))) => vp_in i N ∧ k (x.1 + 1, x.2.1, .int (f i.toNatClampNeg) :: r, x.2.2.2.1, x.2.2.2.2)
    | _ => False
  | _ => False
theorem s_iaload (hd : decode cc pc = .ok (.iaload, 1)) : xSd k0 Ex cl own Ts cc nL ret R (pc, o_iaload) := by
  intro p l e s m args below meth c D cA ρ A X Q J x hpc hJ ho H locs ls hl hP hD hS
  obtain ⟨pc', L, st, h, n⟩ := x
  obtain rfl : pc' = pc := hpc
  dsimp only [o_iaload] at ho
  split at ho
  · rename_i i a r
    split at ho
    · rename_i N f hc
      exact va_iald X.1 X.2.1 X.2.2.2.2.2.2.2.1 hP a 0 (xw_at hc) rfl ho.1 hd (hJ _ ho.2 H locs ls hl hP hD hS)
    · exact ho.elim
  · exact ho.elim
def o_baload : xOp := fun x k _ => match x.2.2.1 with
  | .int i :: .ref a :: r => match x.2.2.2.1[a]? with
    | some (.inl (2, (N, .inl f))) => vp_in i N ∧ k (x.1 + 1, x.2.1, .int (f i.toNatClampNeg) :: r, x.2.2.2.1, x.2.2.2.2)
    | _ => False
  | _ => False
theorem s_baload (hd : decode cc pc = .ok (.baload, 1)) : xSd k0 Ex cl own Ts cc nL ret R (pc, o_baload) := by
  intro p l e s m args below meth c D cA ρ A X Q J x hpc hJ ho H locs ls hl hP hD hS
  obtain ⟨pc', L, st, h, n⟩ := x
  obtain rfl : pc' = pc := hpc
  dsimp only [o_baload] at ho
  split at ho
  · rename_i i a r
    split at ho
    · rename_i N f hc
      exact va_zald X.1 X.2.1 X.2.2.2.2.2.2.2.1 hP a 2 (xw_at hc) rfl ho.1 hd (hJ _ ho.2 H locs ls hl hP hD hS)
    · exact ho.elim
  · exact ho.elim
def o_laload : xOp := fun x k _ => match x.2.2.1 with
  | .int i :: .ref a :: r => match x.2.2.2.1[a]? with
    | some (.inl (1, (N, .inr (.inl f)))) => vp_in i N ∧ k (x.1 + 1, x.2.1, .long (f i.toNatClampNeg) :: r, x.2.2.2.1, x.2.2.2.2)
    | _ => False
  | _ => False
theorem s_laload (hd : decode cc pc = .ok (.laload, 1)) : xSd k0 Ex cl own Ts cc nL ret R (pc, o_laload) := by
  intro p l e s m args below meth c D cA ρ A X Q J x hpc hJ ho H locs ls hl hP hD hS
  obtain ⟨pc', L, st, h, n⟩ := x
  obtain rfl : pc' = pc := hpc
  dsimp only [o_laload] at ho
  split at ho
  · rename_i i a r
    split at ho
    · rename_i N f hc
      exact va_lald X.1 X.2.1 X.2.2.2.2.2.2.2.1 hP a 1 (xw_at hc) rfl ho.1 hd (hJ _ ho.2 H locs ls hl hP hD hS)
    · exact ho.elim
  · exact ho.elim
def o_iastore : xOp := fun x k _ => match x.2.2.1 with
  | .int v :: .int i :: .ref a :: r => match x.2.2.2.1[a]? with
    | some (.inl (0, (N, .inl f))) => vp_in i N ∧ k (x.1 + 1, x.2.1, r, x.2.2.2.1.set a (.inl (0, (N, .inl (upd f i.toNatClampNeg v)))), x.2.2.2.2)
    | _ => False
  | _ => False
theorem s_iastore (hd : decode cc pc = .ok (.iastore, 1)) : xSd k0 Ex cl own Ts cc nL ret R (pc, o_iastore) := by
  intro p l e s m args below meth c D cA ρ A X Q J x hpc hJ ho H locs ls hl hP hD hS
  obtain ⟨pc', L, st, h, n⟩ := x
  obtain rfl : pc' = pc := hpc
  dsimp only [o_iastore] at ho
  split at ho
  · rename_i v i a r
    split at ho
    · rename_i N f hc
      refine va_iast X.1 X.2.1 X.2.2.2.2.2.2.2.1 hP hD hS a 0 (xw_at hc) rfl ho.1 hd (fun H1 locs1 hP1 hD1 hS1 => ?_)
      have e := xw_set0 (ρ := ρ) (cA := cA) h a (.inl (0, (N, .inl (upd f i.toNatClampNeg v))))
      exact hJ _ ho.2 H1 locs1 ls hl (by rw [← e]; exact hP1) (by rw [← e]; exact hD1) hS1
    · exact ho.elim
  · exact ho.elim
def o_bastore : xOp := fun x k _ => match x.2.2.1 with
  | .int v :: .int i :: .ref a :: r => match x.2.2.2.1[a]? with
    | some (.inl (2, (N, .inl f))) => vp_in i N ∧ k (x.1 + 1, x.2.1, r, x.2.2.2.1.set a (.inl (2, (N, .inl (upd f i.toNatClampNeg (vp_nar .boolean v))))), x.2.2.2.2)
    | _ => False
  | _ => False
theorem s_bastore (hd : decode cc pc = .ok (.bastore, 1)) : xSd k0 Ex cl own Ts cc nL ret R (pc, o_bastore) := by
  intro p l e s m args below meth c D cA ρ A X Q J x hpc hJ ho H locs ls hl hP hD hS
  obtain ⟨pc', L, st, h, n⟩ := x
  obtain rfl : pc' = pc := hpc
  dsimp only [o_bastore] at ho
  split at ho
  · rename_i v i a r
    split at ho
    · rename_i N f hc
      refine va_zast X.1 X.2.1 X.2.2.2.2.2.2.2.1 hP hD hS a 2 (xw_at hc) rfl ho.1 hd (fun H1 locs1 hP1 hD1 hS1 => ?_)
      have e := xw_set0 (ρ := ρ) (cA := cA) h a (.inl (2, (N, .inl (upd f i.toNatClampNeg (vp_nar .boolean v)))))
      exact hJ _ ho.2 H1 locs1 ls hl (by rw [← e]; exact hP1) (by rw [← e]; exact hD1) hS1
    · exact ho.elim
  · exact ho.elim
def o_lastore : xOp := fun x k _ => match x.2.2.1 with
  | .long v :: .int i :: .ref a :: r => match x.2.2.2.1[a]? with
    | some (.inl (1, (N, .inr (.inl f)))) => vp_in i N ∧ k (x.1 + 1, x.2.1, r, x.2.2.2.1.set a (.inl (1, (N, .inr (.inl (vp_updL f i.toNatClampNeg v))))), x.2.2.2.2)
    | _ => False
  | _ => False
theorem s_lastore (hd : decode cc pc = .ok (.lastore, 1)) : xSd k0 Ex cl own Ts cc nL ret R (pc, o_lastore) := by
  intro p l e s m args below meth c D cA ρ A X Q J x hpc hJ ho H locs ls hl hP hD hS
  obtain ⟨pc', L, st, h, n⟩ := x
  obtain rfl : pc' = pc := hpc
  dsimp only [o_lastore] at ho
  split at ho
  · rename_i v i a r
    split at ho
    · rename_i N f hc
      refine va_last X.1 X.2.1 X.2.2.2.2.2.2.2.1 hP hD hS a 1 (xw_at hc) rfl ho.1 hd (fun H1 locs1 hP1 hD1 hS1 => ?_)
      have e := xw_set0 (ρ := ρ) (cA := cA) h a (.inl (1, (N, .inr (.inl (vp_updL f i.toNatClampNeg v)))))
      exact hJ _ ho.2 H1 locs1 ls hl (by rw [← e]; exact hP1) (by rw [← e]; exact hD1) hS1
    · exact ho.elim
  · exact ho.elim
end XS
end
section
section XF
variable {k0 : Nat × Nat} {Ex : Code → State → (Nat → Nat) → (Nat → Prop) → Prop} {cl : List vw_C} {own : String} {Ts : List Cond} {cc : ByteArray} {nL : Nat} {ret : Option FieldType} {R : Room} {pc : Nat}
def o_getf (ci f : Nat) : xOp := fun x k _ => match x.2.2.1 with
  | .ref a :: r => match x.2.2.2.1[a]? with
    | some (.inr (cj, fs)) => match fs[f]? with
      | some v => bif Nat.beq cj ci then k (x.1 + 3, x.2.1, v :: r, x.2.2.2.1, x.2.2.2.2) else False
      | none => False
    | _ => False
  | _ => False
def o_puti (ci f : Nat) : xOp := fun x k _ => match x.2.2.1 with
  | .int v :: .ref a :: r => match x.2.2.2.1[a]? with
    | some (.inr (cj, fs)) => bif Nat.beq cj ci && Nat.blt f fs.length then k (x.1 + 3, x.2.1, r, x.2.2.2.1.set a (.inr (cj, fs.set f (.int v))), x.2.2.2.2) else False
    | _ => False
  | _ => False

theorem s_getf {ci f i : Nat} {C : String} {T : u_T} {N : Nat} (hd : decode cc pc = .ok (.getfield i, 3)) (hc : cl[ci]? = some (C, T, N)) (hin : ∀ w ∈ u_ws C T N, w ∈ Ts) (hf : f < N) (hw : Cond.fieldLink own i (T f).1 (T f).2.1 (T f).2.2.1 ∈ Ts) : xSd k0 Ex cl own Ts cc nL ret R (pc, o_getf ci f) := by
  intro p l e s m args below meth c D cA ρ A X Q J x hpc hJ ho H locs ls hl hP hD hS
  obtain ⟨pc', L, st, h, n⟩ := x
  obtain rfl : pc' = pc := hpc
  dsimp only [o_getf] at ho
  split at ho
  · rename_i a r
    split at ho
    · rename_i cj fs he
      split at ho
      · rename_i v hfv
        obtain ⟨h1, h2⟩ := bif_t ho
        obtain rfl : cj = ci := Nat.eq_of_beq_eq_true h1
        exact va_get X.1 X.2.1 X.2.2.2.2.2.2.1 hin X.2.2.2.2.2.1 X.2.2.2.2.2.2.2.1 hP a (xw_at he) hc f hf (X.2.2.2.2.2.2.1 _ hw) (fun _ q => q) (v := xv ρ v) (by rw [List.getElem?_map, hfv]; rfl) hd (hJ _ h2 H locs ls hl hP hD hS)
      · exact ho.elim
    · exact ho.elim
  · exact ho.elim
theorem s_getfN {ci f i : Nat} {C : String} {T : u_T} {N : Nat} {host : String} (hd : decode cc pc = .ok (.getfield i, 3)) (hc : cl[ci]? = some (C, T, N)) (hin : ∀ w ∈ u_ws C T N, w ∈ Ts) (hf : f < N) (hw : Cond.fieldLinkNest own i (T f).1 (T f).2.1 (T f).2.2.1 host ∈ Ts) : xSd k0 Ex cl own Ts cc nL ret R (pc, o_getf ci f) := by
  intro p l e s m args below meth c D cA ρ A X Q J x hpc hJ ho H locs ls hl hP hD hS
  obtain ⟨pc', L, st, h, n⟩ := x
  obtain rfl : pc' = pc := hpc
  dsimp only [o_getf] at ho
  split at ho
  · rename_i a r
    split at ho
    · rename_i cj fs he
      split at ho
      · rename_i v hfv
        obtain ⟨h1, h2⟩ := bif_t ho
        obtain rfl : cj = ci := Nat.eq_of_beq_eq_true h1
        exact va_getN X.1 X.2.1 X.2.2.2.2.2.2.1 hin X.2.2.2.2.2.1 X.2.2.2.2.2.2.2.1 hP a (xw_at he) hc f hf (X.2.2.2.2.2.2.1 _ hw) (fun _ q => q) (v := xv ρ v) (by rw [List.getElem?_map, hfv]; rfl) hd (hJ _ h2 H locs ls hl hP hD hS)
      · exact ho.elim
    · exact ho.elim
  · exact ho.elim
theorem s_puti {ci f i : Nat} {C : String} {T : u_T} {N : Nat} (hd : decode cc pc = .ok (.putfield i, 3)) (hc : cl[ci]? = some (C, T, N)) (hin : ∀ w ∈ u_ws C T N, w ∈ Ts) (hf : f < N) (hw : Cond.fieldLink own i (T f).1 (T f).2.1 (T f).2.2.1 ∈ Ts) (ty0 : Nat → FieldType) (hty : ∀ k, k < N → parseFieldDescriptor (T k).2.2.1 = some (ty0 k)) (hnm : ∀ a, a < N → ∀ b, b < N → a ≠ b → (T a).2.1 ≠ (T b).2.1) (hfin : (T f).2.2.2 = false) (hde : parseFieldDescriptor (T f).2.2.1 = some .int) : xSd k0 Ex cl own Ts cc nL ret R (pc, o_puti ci f) := by
  intro p l e s m args below meth c D cA ρ A X Q J x hpc hJ ho H locs ls hl hP hD hS
  obtain ⟨pc', L, st, h, n⟩ := x
  obtain rfl : pc' = pc := hpc
  dsimp only [o_puti] at ho
  split at ho
  · rename_i v a r
    split at ho
    · rename_i cj fs he
      obtain ⟨h1, h2⟩ := bif_t ho
      rw [Bool.and_eq_true] at h1
      obtain rfl : cj = ci := Nat.eq_of_beq_eq_true h1.1
      have hlt : f < fs.length := Nat.le_of_ble_eq_true h1.2
      refine va_put X.1 X.2.1 X.2.2.2.2.2.2.1 hin ty0 hty hnm X.2.2.2.2.2.1 X.2.2.2.2.2.2.2.1 hP hD hS a (xw_at he) hc f hf (X.2.2.2.2.2.2.1 _ hw) (fun _ q => q) hfin (v := .int v) hde rfl rfl (by rw [List.length_map]; exact hlt) hd (fun H1 locs1 hP1 hD1 hS1 => ?_)
      have e := xw_set0 (ρ := ρ) (cA := cA) h a (.inr (cj, fs.set f (.int v)))
      have e2 : xe ρ cA (.inr (cj, fs.set f (.int v))) = .inr (cj, (fs.map (xv ρ)).set f (.int v)) := by
        show Sum.inr (cj, (fs.set f (.int v)).map (xv ρ)) = _
        rw [List.map_set]; rfl
      rw [e2] at e
      exact hJ _ h2 H1 locs1 ls hl (by rw [← e]; exact hP1) (by rw [← e]; exact hD1) hS1
    · exact ho.elim
  · exact ho.elim
theorem s_putiN {ci f i : Nat} {C : String} {T : u_T} {N : Nat} {host : String} (hd : decode cc pc = .ok (.putfield i, 3)) (hc : cl[ci]? = some (C, T, N)) (hin : ∀ w ∈ u_ws C T N, w ∈ Ts) (hf : f < N) (hw : Cond.fieldLinkNest own i (T f).1 (T f).2.1 (T f).2.2.1 host ∈ Ts) (ty0 : Nat → FieldType) (hty : ∀ k, k < N → parseFieldDescriptor (T k).2.2.1 = some (ty0 k)) (hnm : ∀ a, a < N → ∀ b, b < N → a ≠ b → (T a).2.1 ≠ (T b).2.1) (hfin : (T f).2.2.2 = false) (hde : parseFieldDescriptor (T f).2.2.1 = some .int) : xSd k0 Ex cl own Ts cc nL ret R (pc, o_puti ci f) := by
  intro p l e s m args below meth c D cA ρ A X Q J x hpc hJ ho H locs ls hl hP hD hS
  obtain ⟨pc', L, st, h, n⟩ := x
  obtain rfl : pc' = pc := hpc
  dsimp only [o_puti] at ho
  split at ho
  · rename_i v a r
    split at ho
    · rename_i cj fs he
      obtain ⟨h1, h2⟩ := bif_t ho
      rw [Bool.and_eq_true] at h1
      obtain rfl : cj = ci := Nat.eq_of_beq_eq_true h1.1
      have hlt : f < fs.length := Nat.le_of_ble_eq_true h1.2
      refine va_putN X.1 X.2.1 X.2.2.2.2.2.2.1 hin ty0 hty hnm X.2.2.2.2.2.1 X.2.2.2.2.2.2.2.1 hP hD hS a (xw_at he) hc f hf (X.2.2.2.2.2.2.1 _ hw) (fun _ q => q) hfin (v := .int v) hde rfl rfl (by rw [List.length_map]; exact hlt) hd (fun H1 locs1 hP1 hD1 hS1 => ?_)
      have e := xw_set0 (ρ := ρ) (cA := cA) h a (.inr (cj, fs.set f (.int v)))
      have e2 : xe ρ cA (.inr (cj, fs.set f (.int v))) = .inr (cj, (fs.map (xv ρ)).set f (.int v)) := by
        show Sum.inr (cj, (fs.set f (.int v)).map (xv ρ)) = _
        rw [List.map_set]; rfl
      rw [e2] at e
      exact hJ _ h2 H1 locs1 ls hl (by rw [← e]; exact hP1) (by rw [← e]; exact hD1) hS1
    · exact ho.elim
  · exact ho.elim
end XF
section XR
variable {p : Program} {l : Launch} {e : Env} {R : Room} {s : State} {m : MethodId} {args : Array Value} {below : List Frame} {meth : Method} {c : Code} {H : Heap} {locs : List Loc} {cells slots : Nat}
theorem W.mono {Q Q' : State → Prop} {g : JFrame} (k : W p l e R s m args below meth c H locs cells slots Q g) (h : ∀ t, Q t → Q' t) : W p l e R s m args below meth c H locs cells slots Q' g := fun T hT X => by
  obtain ⟨t, a, b⟩ := k T hT X
  exact ⟨t, a, h t b⟩
theorem xret {k0 : Nat × Nat} {cl : List vw_C} {D : va_G} {cA : Nat → ClassId} {ρ : Nat → Nat} {A : Nat → Prop} {Q : xQ} {v : Option Value} {h : xH} {n : Nat} (hQ : Q (.inl v) h n) (hP : va_P D cl (xw ρ cA 0 h) H) (hD : va_D A (xw ρ cA 0 h)) (hS : va_S A s.heap H locs) {t : State}
    (hq : MQ below (fun _ _ o t => o = .returned (v.map (xv ρ)) ∧ t.heap = H ∧ s.WarmedH t.vm) args s (k0.1 + n) (k0.2 + 6 * n) A t) : xMQ k0 cl D cA ρ A Q s below t := by
  obtain ⟨o, h1, h2, ⟨h3, h4, h5⟩, L, ⟨-, -, h6⟩, h7⟩ := hq
  refine ⟨o, h1, h2, .inl v, h, n, hQ, ?_, by rw [h4]; exact hP, hD, hS.F h4, h5, L, h6, h7⟩
  cases v with
  | none => exact h3
  | some w => exact h3
end XR
section XV
variable {k0 : Nat × Nat} {Ex : Code → State → (Nat → Nat) → (Nat → Prop) → Prop} {cl : List vw_C} {own : String} {Ts : List Cond} {cc : ByteArray} {nL : Nat} {ret : Option FieldType} {R : Room} {pc : Nat}
def o_iret : xOp := fun x _ Q => match x.2.2.1 with
  | [.int v] => Q (.inl (some (.int v))) x.2.2.2.1 x.2.2.2.2
  | _ => False
def o_zret : xOp := fun x _ Q => match x.2.2.1 with
  | [.int v] => (v = 0 ∨ v = 1) ∧ Q (.inl (some (.int v))) x.2.2.2.1 x.2.2.2.2
  | _ => False
def o_lret : xOp := fun x _ Q => match x.2.2.1 with
  | [.long v] => Q (.inl (some (.long v))) x.2.2.2.1 x.2.2.2.2
  | _ => False
def o_vret : xOp := fun x _ Q => match x.2.2.1 with
  | [] => Q (.inl none) x.2.2.2.1 x.2.2.2.2
  | _ => False
theorem s_iret (hd : decode cc pc = .ok (.ireturn, 1)) : xSd k0 Ex cl own Ts cc nL (some .int) R (pc, o_iret) := by
  intro p l e s m args below meth c D cA ρ A X Q J x hpc hJ ho H locs ls hl hP hD hS
  obtain ⟨pc', L, st, h, n⟩ := x
  obtain rfl : pc' = pc := hpc
  dsimp only [o_iret] at ho
  split at ho
  · rename_i v
    have hlocks := X.2.2.2.2.1
    exact W.mono (W.iret (v := v) (free := A) X.1 X.2.1 X.2.2.2.1 (fun t ht hW => ⟨rfl, ht, hW⟩) hS.2.2 hd) (fun t ht => xret (v := some (.int v)) ho hP hD hS ht)
  · exact ho.elim
theorem s_zret (hd : decode cc pc = .ok (.ireturn, 1)) : xSd k0 Ex cl own Ts cc nL (some .boolean) R (pc, o_zret) := by
  intro p l e s m args below meth c D cA ρ A X Q J x hpc hJ ho H locs ls hl hP hD hS
  obtain ⟨pc', L, st, h, n⟩ := x
  obtain rfl : pc' = pc := hpc
  dsimp only [o_zret] at ho
  split at ho
  · rename_i v
    have hlocks := X.2.2.2.2.1
    have hn : narrow .boolean (.int v) = .int v := by
      rcases ho.1 with q | q <;> subst q <;> decide
    exact W.mono (W.zret (v := v) (free := A) X.1 X.2.1 X.2.2.2.1 hn (fun t ht hW => ⟨rfl, ht, hW⟩) hS.2.2 hd) (fun t ht => xret (v := some (.int v)) ho.2 hP hD hS ht)
  · exact ho.elim
theorem s_lret (hd : decode cc pc = .ok (.lreturn, 1)) : xSd k0 Ex cl own Ts cc nL (some .long) R (pc, o_lret) := by
  intro p l e s m args below meth c D cA ρ A X Q J x hpc hJ ho H locs ls hl hP hD hS
  obtain ⟨pc', L, st, h, n⟩ := x
  obtain rfl : pc' = pc := hpc
  dsimp only [o_lret] at ho
  split at ho
  · rename_i v
    have hlocks := X.2.2.2.2.1
    exact W.mono (W.lret (v := v) (free := A) X.1 X.2.1 X.2.2.2.1 (fun t ht hW => ⟨rfl, ht, hW⟩) hS.2.2 hd) (fun t ht => xret (v := some (.long v)) ho hP hD hS ht)
  · exact ho.elim
theorem s_vret (hd : decode cc pc = .ok (.return_, 1)) : xSd k0 Ex cl own Ts cc nL none R (pc, o_vret) := by
  intro p l e s m args below meth c D cA ρ A X Q J x hpc hJ ho H locs ls hl hP hD hS
  obtain ⟨pc', L, st, h, n⟩ := x
  obtain rfl : pc' = pc := hpc
  dsimp only [o_vret] at ho
  split at ho
  · have hlocks := X.2.2.2.2.1
    exact W.mono (W.vret (free := A) X.1 X.2.1 X.2.2.2.1 (fun t ht hW => ⟨rfl, ht, hW⟩) hS.2.2 hd) (fun t ht => xret (v := none) ho hP hD hS ht)
  · exact ho.elim
end XV
/-- how a method's frame begins -/
def xen : List Value → xL
  | [] => []
  | v :: t => bif Nat.beq v.category 2 then some v :: none :: xen t else some v :: xen t
def xA (ρ : Nat → Nat) (k sz : Nat) : Nat → Prop := fun q => (∃ i, i < k ∧ q = ρ i) ∨ sz ≤ q
def xPre (cl : List vw_C) (D : va_G) (cA : Nat → ClassId) (ρ : Nat → Nat) (vs : List Value) (h : xH) (sz : Nat) : Array Value → State → Prop := fun a U => a = (vs.map (xv ρ)).toArray ∧ U.heap.size = sz ∧ va_P D cl (xw ρ cA 0 h) U.heap ∧ va_K D cl (xty cA) U ∧ va_D (fun _ => True) (xw ρ cA 0 h) ∧ xHs U
/-- a method's contract: what its meaning F promises, the machine does -/
def xMet (cl : List vw_C) (y : MethodName) (ws : List Cond) (rm : Room) (F : xP) : Prop := ∀ (l : Launch) (D : va_G) (cA : Nat → ClassId) (ρ : Nat → Nat) (vs : List Value) (h : xH) (Q : xQ) (sz : Nat), xLo l → F vs h Q →
  MetFree l y (headSpec ws rm) (xPre cl D cA ρ vs h sz) (fun _ _ _ _ _ => True) (fun _ st o t => xEnd (0, 0) cl D cA ρ (xA ρ h.length sz) Q st o t)
def xRun (tb : xT) (nL : Nat) : xP := fun vs h Q => (xen vs).length ≤ nL ∧ xG tb Q (0, xen vs ++ List.replicate (nL - (xen vs).length) none, [], h, 0)
theorem xMet.weak {cl : List vw_C} {y : MethodName} {ws : List Cond} {rm : Room} {F F' : xP} (h : xMet cl y ws rm F) (hF : ∀ vs h Q, F' vs h Q → F vs h Q) : xMet cl y ws rm F' := fun l D cA ρ vs hh Q sz hlo q => h l D cA ρ vs hh Q sz hlo (hF vs hh Q q)
theorem xla_none (ρ : Nat → Nat) : ∀ (k i : Nat), xla ρ i (List.replicate k none) = []
  | 0, i => rfl
  | k + 1, i => by rw [List.replicate_succ]; exact xla_none ρ k (i + 1)
theorem xen_la (ρ : Nat → Nat) (k : Nat) : ∀ (vs : List Value) (i : Nat), xla ρ i (xen vs ++ List.replicate k none) = lv_args i (vs.map (xv ρ))
  | [], i => xla_none ρ k i
  | v :: t, i => by
    unfold xen
    simp only [List.map_cons, lv_args, xv_cat]
    cases hb : Nat.beq v.category 2 with
    | true =>
      have : v.category = 2 := Nat.eq_of_beq_eq_true hb
      rw [if_pos this, ← xen_la ρ k t (i + 2)]
      rfl
    | false =>
      rw [if_neg (beq_f hb), ← xen_la ρ k t (i + 1)]
      rfl
theorem xen_len (ρ : Nat → Nat) : ∀ (vs : List Value), (lg_sl (vs.map (xv ρ))).length = (xen vs).length
  | [] => rfl
  | v :: t => by
    have ih := xen_len ρ t
    unfold lg_sl at ih ⊢
    unfold xen
    simp only [List.map_cons, List.flatMap_cons, List.length_append, xv_cat, ih]
    cases hb : Nat.beq v.category 2 with
    | true =>
      have : v.category = 2 := Nat.eq_of_beq_eq_true hb
      rw [if_pos this]
      simp
      omega
    | false =>
      rw [if_neg (beq_f hb)]
      simp
      omega
theorem xw_len (ρ : Nat → Nat) (cA : Nat → ClassId) : ∀ (h : xH) (i : Nat), (xw ρ cA i h).length = h.length
  | [], i => rfl
  | c :: t, i => by simp [xw, xw_len ρ cA t (i + 1)]
theorem xD_A {ρ : Nat → Nat} {cA : Nat → ClassId} {h : xH} {A : Nat → Prop} {sz : Nat} (hD : va_D A (xw ρ cA 0 h)) : va_D (xA ρ h.length sz) (xw ρ cA 0 h) :=
  hD.weaken fun k q hk _ => by
    rw [xw_get] at hk
    cases hh : h[k]? with
    | none => rw [hh] at hk; cases hk
    | some c =>
      rw [hh] at hk
      simp only [Option.map_some, Option.some.injEq, Nat.zero_add] at hk
      exact Or.inl ⟨k, (List.getElem?_eq_some_iff.mp hh).1, by rw [← hk]⟩
theorem xA_sub {ρ : Nat → Nat} {cA : Nat → ClassId} {h : xH} {A : Nat → Prop} {sz sz0 : Nat} (hD : va_D A (xw ρ cA 0 h)) (hA : ∀ q, sz0 ≤ q → A q) (hs : sz0 ≤ sz) : ∀ q, xA ρ h.length sz q → A q := fun q hq => by
  rcases hq with ⟨i, hi, rfl⟩ | hq
  · have hg : h[i]? = some h[i] := List.getElem?_eq_getElem hi
    exact hD.2 i _ (xw_at hg)
  · exact hA q (Nat.le_trans hs hq)
theorem x_ns {cl : List vw_C} {D : va_G} {cA : Nat → ClassId} {ρ : Nat → Nat} {h : xH} {H : Heap} (hP : va_P D cl (xw ρ cA 0 h) H) : ∀ q, xA ρ h.length H.size q → ∀ cell : Cell, H[q]? = some cell → cell.vm.isStatics = false := by
  intro q hq cell hc
  rcases hq with ⟨i, hi, rfl⟩ | hq
  · have hg : h[i]? = some h[i] := List.getElem?_eq_getElem hi
    have h1 := hP i _ (xw_at hg)
    generalize h[i] = w at h1
    rcases w with a | o
    · have h2 : H[ρ i]? = some (vp_cell (cA a.1) a.2) := h1
      rw [h2] at hc
      have h3 : vp_cell (cA a.1) a.2 = cell := Option.some.inj hc
      rw [← h3]
      obtain ⟨t, n, f | f | f | f | f⟩ := a <;> rfl
    · obtain ⟨r, -, c2, w1, w2, w3, -⟩ := h1
      rw [w1] at hc
      have h3 : c2 = cell := Option.some.inj hc
      rw [← h3, w3]
      rfl
  · have : H[q]? = none := by simp [hq]
    rw [this] at hc
    cases hc
theorem xMet.of {cl : List vw_C} {y : MethodName} {ws ws' : List Cond} {rm : Room} {cc : ByteArray} {nL : Nat} {ret : Option FieldType} {tb : xT} (hy : plainName y.cls = true) (hw : ws = Cond.code y cc nL ret :: ws') (hv : ∀ q ∈ tb, xSd (0, 0) x0 cl y.cls ws cc nL ret rm q) : xMet cl y ws rm (xRun tb nL) := by
  intro l D cA ρ vs h Q sz hlo hF
  refine MetFree.of_bodyS (code := cc) (maxLocals := nL) (ret := ret) hy ?_ ?_
  · intro args s m hh hn
    obtain ⟨meth, c, h1, h2, h3, h4, h5, h6, -, -⟩ := Cond.code_spec hn (atoms_spec (ws := ws) hh _ (by rw [hw]; exact List.mem_cons_self))
    exact ⟨meth, c, h1, h2, h3, h4, h5, h6⟩
  · intro p e s m args below meth c s₁ B hml hP _
    obtain ⟨rfl, hsz, hP, hK, hD0, hHs⟩ := hP
    subst hsz
    have hh0 : s₁.heap = s.heap := by rw [B.state]; rfl
    have hts := atoms_spec (ws := ws) B.pre
    have hcw : Cond.code y cc nL ret ∈ ws := by rw [hw]; exact List.mem_cons_self
    have hX : xCx x0 cl y.cls ws cc nL ret p l s m (vs.map (xv ρ)).toArray meth c D cA ρ (xA ρ h.length s.heap.size) :=
      ⟨B.exec, B.bytes, hml, B.returns, B.notSynchronized, findClass_of_methodNamed B.named, hts, hK, fun q hq => Or.inr hq, B.noHandlers (hts _ hcw), hlo, x_ns hP, hHs⟩
    have hl := lv_entry (vs.map (xv ρ)) (n := nL) (by rw [xen_len]; exact hF.1)
    have hk := xSd.all (l := l) (e := e) (below := below) (ρ := ρ) hv hX hF.2 s.heap [] _ (by rw [xen_la]; exact hl) hP (xD_A hD0) va_S.rf
    obtain ⟨t, a1, o, b1, b2, b3⟩ := hk s₁ hh0 (Stand.of_body B)
    exact ⟨t, o, by rw [lg_entry_eq]; exact a1, b1, b2, b3⟩

section XK
variable {p : Program} {l : Launch} {e : Env} {R : Room} {s : State} {m : MethodId} {args : Array Value} {below : List Frame} {meth : Method} {c : Code} {T : State} {locs : List Loc} {cells slots : Nat}
/-- a callee is entered and has ended, whatever way -/
theorem x_in (X : Stand p l e R s m args below meth c T locs cells slots) {g : JFrame} (hg : g.method = m) (hsize : g.locals.size = c.maxLocals) {ig : Instr} {len : Nat} (hdg : decode c.code g.pc = .ok (ig, len)) {y : MethodName} {mk : MethodId} (hn : T.methodNamed? y = some mk)
    {ws : List Cond} {rm : Room} {Pf : Array Value → State → Prop} {Qf : Array Value → State → Outcome → State → Prop} (hM : MetFree l y (headSpec ws rm) Pf (fun _ _ _ _ _ => True) Qf) {a : Array Value} {maxL : Nat}
    (hws : ∀ w ∈ ws, w.before a T = true) (hcY : ∃ methY cY, T.vm.method? mk = some methY ∧ methY.code = some cY ∧ cY.maxLocals = maxL) (hini : (Cond.initialized y.cls).before a T = true)
    (hfr : rm.frames + 1 ≤ R.frames) (hlo : 2 * g.monitorRoom + (g.stack.map fun v => v.category).sum + (maxL + 11) + rm.locals ≤ R.locals) (hce : cells + rm.cells ≤ R.cells) (hsl : slots + rm.slots ≤ R.slots) (hP : Pf a (T.calling g mk a)) :
    ∃ o s₂, Steps p.tables e below (doInvoke e (T.setTop g) [] mk a).1 s₂ ∧ s₂.status = .running ∧ Ended s₂ (.java g :: below) o ∧ Qf a (T.calling g mk a) o s₂ := by
  obtain ⟨methY, cY, hmY, hcY, hlY⟩ := hcY
  obtain ⟨kY, hkY, -⟩ := className_of_methodNamed hn
  have hinitY : kY.init = .initialized := Cond.initialized_spec (findClass_of_methodNamed hn) hkY hini
  have h : At T g.method c below := by rw [hg]; exact X.here
  have happ : (headSpec ws rm).appliesLoose y e.platform (T.calling g mk a) = true :=
    Spec.appliesLoose_calling (g := g) h hdg hn hkY hinitY (X.room_calling (g := g) (R' := rm) hsize hmY hcY hfr (by rw [hlY]; exact hlo) hce hsl) (atoms_intro hws)
  obtain ⟨mid, hmid⟩ := h.above
  have hfr2 : (T.setTop g).frames = (.java g :: mid) ++ below := by rw [State.frames_setTop' g h.top, hmid]; rfl
  obtain ⟨o, s₂, hsteps, hrun, hend, hq⟩ := Steps.callFree hM p X.admits X.cas X.clock (acts := []) hfr2 happ hP trivial
  rw [State.frames_setTop' g h.top, X.tail] at hend
  exact ⟨o, s₂, hsteps, hrun, hend, hq⟩
end XK
end
section
def xnw : Cond → Bool
  | .fieldLinkNest .. => true
  | .methodLinkNest .. => true
  | .declares _ => true
  | .castable .. => true
  | .stringRef .. => true
  | _ => false
def xgw (w : Cond) : Prop := ((w.onTables && w.keeps) = true ∨ ∃ ty, w = .arrayClass ty) ∨ xnw w = true
theorem xgw_at {w : Cond} {args a' : Array Value} {s U : State} (hW : s.WarmedH U.vm) (hg : xgw w) (h : w.before args s = true) : w.before a' U = true := by
  rcases hg with hg | hg
  · exact word_at hW hg h
  · cases w with
    | fieldLinkNest a i b n d hh => exact va_Nw.use rfl (va_Nw.warmF hW (va_Nw.of rfl h))
    | methodLinkNest a i x hh => exact va_Nw.use rfl (va_Nw.warmM hW (va_Nw.of rfl h))
    | declares x => exact va_tabs rfl (rfl : (s.setVm U.vm).vm = U.vm) (Cond.before_shiftedFace (args := args) (State.Shifted.of_warmed hW) (Cond.declares x) rfl h)
    | castable x y => exact va_tabs rfl (rfl : (s.setVm U.vm).vm = U.vm) (Cond.before_shiftedFace (args := args) (State.Shifted.of_warmed hW) (Cond.castable x y) rfl h)
    | stringRef x y z =>
      have h1 := Cond.stringRef_warmed hW h
      simp only [Cond.before, Cond.holds, Cond.value, State.names, State.poolOf?, State.resolvedAt?, State.vm_setVm] at h1 ⊢
      exact h1
    | _ => cases hg
/-- the words of a callee are among the caller's, and stay true -/
def xGood (big ws : List Cond) : Prop := ∀ w ∈ ws, w ∈ big ∧ xgw w
/-- a call: F is the callee's meaning, np its arguments (with the receiver), rc and rk the rooms -/
def o_call (F : xP) (np rc rk : Nat) : xOp := fun x k Q => bif Nat.ble np x.2.2.1.length && (Nat.ble (xcs (x.2.2.1.drop np)) 8 && Nat.ble (x.2.2.2.2 + rk) rc) then
    F (x.2.2.1.take np).reverse x.2.2.2.1 (fun r h' n' => match r with
      | .inl none => k (x.1 + 3, x.2.1, x.2.2.1.drop np, h', x.2.2.2.2 + n')
      | .inl (some v) => k (x.1 + 3, x.2.1, v :: x.2.2.1.drop np, h', x.2.2.2.2 + n')
      | .inr X => Q (.inr X) h' (x.2.2.2.2 + n')) else False
section XK
variable {k0 : Nat × Nat} {Ex : Code → State → (Nat → Nat) → (Nat → Prop) → Prop} {cl : List vw_C} {p : Program} {l : Launch} {e : Env} {R : Room} {s : State} {m : MethodId} {args : Array Value} {below : List Frame} {meth : Method} {c : Code} {T : State} {locs : List Loc} {own : String} {Ts : List Cond} {cc : ByteArray} {nL : Nat} {ret : Option FieldType} {D : va_G} {cA : Nat → ClassId} {ρ : Nat → Nat} {A : Nat → Prop}
theorem x_callG (hX : xCx Ex cl own Ts cc nL ret p l s m args meth c D cA ρ A) {Q : xQ} {J : xF → Prop} (hJ : ∀ y, J y → xWW k0 cl R nL p l e s m args below meth c D cA ρ A Q y)
    {PT : Nat → xH → Nat → Prop} {pc n : Nat} {L : xL} {h : xH} {ls : Array Slot} {rest vs : List Value} (X : Stand p l e R s m args below meth c T locs (k0.1 + n) (k0.2 + 6 * n))
    (hl : lv_has ls nL (xla ρ 0 L)) (hP : va_P D cl (xw ρ cA 0 h) T.heap) (hD : va_D A (xw ρ cA 0 h)) (hS : va_S A s.heap T.heap locs) {ig : Instr} (hdg : decode cc pc = .ok (ig, 3))
    {y : MethodName} {mk : MethodId} (hn : T.methodNamed? y = some mk) {ws : List Cond} {rm : Room} {F : xP} (hM : xMet cl y ws rm F) {maxL : Nat} (hcY : ∃ methY cY, T.vm.method? mk = some methY ∧ methY.code = some cY ∧ cY.maxLocals = maxL) (hG : xGood Ts ws)
    (hini : Cond.initialized y.cls ∈ Ts) {rc rk : Nat} (hrc : k0.1 + rc ≤ R.cells) (hrs : k0.2 + 6 * rc ≤ R.slots) (hkc : rm.cells = rk) (hks : rm.slots = 6 * rk) (hfr : rm.frames + 1 ≤ R.frames) (hlo : 8 + (maxL + 11) + rm.locals ≤ R.locals)
    (hst : xcs rest ≤ 8) (hro : n + rk ≤ rc)
    (hF : F vs h (fun r h' n' => match r with
      | .inl none => J (pc + 3, L, rest, h', n + n')
      | .inl (some v) => J (pc + 3, L, v :: rest, h', n + n')
      | .inr Z => PT Z h' n'))
    (hPT : ∀ (Z : Nat) (h' : xH) (n' : Nat) (T' : State) (locs' : List Loc) (a : Nat) (cell : Cell), PT Z h' n' → Stand p l e R s m args below meth c T' locs' (k0.1 + (n + n')) (k0.2 + 6 * (n + n')) → va_P D cl (xw ρ cA 0 h') T'.heap → va_D A (xw ρ cA 0 h') → va_S A s.heap T'.heap locs' → T'.heap[a]? = some cell → (∀ k, cell.vm ≠ .statics k) → s.vm.findClass (xEx Z) = some cell.cls → (∃ k, s.vm.classes[cell.cls]? = some k) →
      ∃ t, Steps p.tables e below ((T'.setTop (F0 m pc ls (rest.map (xv ρ)))).pushFrame (.throwing a)) t ∧ xMQ k0 cl D cA ρ A Q s below t) :
    ∃ t, Steps p.tables e below (doInvoke e (T.setTop (F0 m pc ls (rest.map (xv ρ)))) [] mk (vs.map (xv ρ)).toArray).1 t ∧ xMQ k0 cl D cA ρ A Q s below t := by
  obtain ⟨hx, hb, hml, hr, hlk, hown, hts, hK, hA, hex0, hlo0, hns, hHs⟩ := hX
  have hwT : ∀ w ∈ ws, w.before (vs.map (xv ρ)).toArray T = true := fun w hw => xgw_at X.warmed (hG w hw).2 (hts w (hG w hw).1)
  have hdg' : decode c.code (F0 m pc ls (rest.map (xv ρ))).pc = .ok (ig, 3) := by rw [hb]; exact hdg
  obtain ⟨o, s₂, hsteps, hrun, hend, r, h', n', hq, hO, hP', hD', hF', hW', LL, hsame, hLL⟩ := x_in X (g := F0 m pc ls (rest.map (xv ρ))) rfl (by rw [hml]; exact hl.1) hdg' hn (hM l D cA ρ vs h _ T.heap.size hlo0 hF) (a := (vs.map (xv ρ)).toArray) hwT hcY
    (word_at X.warmed (Or.inl (by first | rfl | simp [Cond.onTables, Cond.keeps, Cond.steady])) (hts _ hini)) hfr (by
      show 2 * 0 + ((rest.map (xv ρ)).map fun v => v.category).sum + (maxL + 11) + rm.locals ≤ R.locals
      rw [xcs_map]; omega) (by rw [hkc]; omega) (by rw [hks]; omega)
    ⟨rfl, rfl, hP, va_K.moved X.warmed.alike hK, hD.weaken (fun _ _ _ _ => trivial), xHs.kept (U := T.calling (F0 m pc ls (rest.map (xv ρ))) mk (vs.map (xv ρ)).toArray) X.warmed.alike (x_stat hS hns) hHs⟩
  have hsub := xA_sub (h := h) (sz := T.heap.size) hD hA (show s.heap.size ≤ T.heap.size from hS.1)
  have hS' : va_S A s.heap s₂.heap (locs ++ LL) := by
    refine ⟨Nat.le_trans hS.1 hF'.1, fun q h1 h2 => ?_, fun q hq => ?_⟩
    · rw [hF'.2 q (Nat.lt_of_lt_of_le h1 hS.1) (fun z => h2 (hsub q z))]
      exact hS.2.1 q h1 h2
    · rcases List.mem_append.mp hq with hq | hq
      · exact hS.2.2 q hq
      · exact hsub _ (hLL q hq)
  have hDA : va_D A (xw ρ cA 0 h') := hD'.weaken fun k q _ z => hsub _ z
  have hcells : k0.2 + 6 * n + (0 + 6 * n') = k0.2 + 6 * (n + n') := by omega
  have hcells1 : k0.1 + n + (0 + n') = k0.1 + (n + n') := by omega
  rcases r with v | Z
  · obtain ⟨v', hv', hk⟩ : ∃ v' : Option Value, o = .returned v' ∧ xWW k0 cl R nL p l e s m args below meth c D cA ρ A Q (pc + 3, L, v.toList ++ rest, h', n + n') ∧ v' = v.map (xv ρ) := by
      cases v with
      | none => exact ⟨none, hO, hJ _ hq, rfl⟩
      | some w => exact ⟨some (xv ρ w), hO, hJ _ hq, rfl⟩
    subst hv'
    obtain ⟨T', X', -, -, ht⟩ := X.outOf (g := F0 m pc ls (rest.map (xv ρ))) rfl hdg' hend hW' hsame
    have hh : T'.heap = s₂.heap := by rw [ht]; rfl
    rw [hcells, hcells1] at X'
    obtain ⟨t, a1, b1⟩ := hk.1 T'.heap (locs ++ LL) ls hl (by rw [hh]; exact hP') hDA (by rw [hh]; exact hS') T' rfl X'
    refine ⟨t, hsteps.trans ?_, b1⟩
    rw [ht, hk.2]
    have e : (v.toList ++ rest).map (xv ρ) = (v.map (xv ρ)).toList ++ rest.map (xv ρ) := by cases v <;> simp
    rw [e] at a1
    exact a1
  · obtain ⟨a, cell, rfl, ha, hv, hc1, kc, hc2⟩ := hO
    obtain ⟨T', X', -, -, ht⟩ := X.outOfThrown (g := F0 m pc ls (rest.map (xv ρ))) rfl hend hW' hsame
    have hh : T'.heap = s₂.heap := by rw [ht]; rfl
    rw [hcells, hcells1] at X'
    obtain ⟨k', hk', -⟩ := (X.warmed.alike).symm.2.2 _ _ hc2
    obtain ⟨t, a1, b1⟩ := hPT Z h' n' T' (locs ++ LL) a cell hq X' (by rw [hh]; exact hP') hDA (by rw [hh]; exact hS') (by rw [hh]; exact ha) hv (by
      have := X.warmed.alike.findClass (xEx Z)
      rw [← this]
      exact hc1) ⟨k', hk'⟩
    exact ⟨t, hsteps.trans (by rw [ht]; exact a1), b1⟩
theorem x_call (hX : xCx Ex cl own Ts cc nL ret p l s m args meth c D cA ρ A) {Q : xQ} {J : xF → Prop} (hJ : ∀ y, J y → xWW k0 cl R nL p l e s m args below meth c D cA ρ A Q y)
    {pc n : Nat} {L : xL} {h : xH} {ls : Array Slot} {rest vs : List Value} (X : Stand p l e R s m args below meth c T locs (k0.1 + n) (k0.2 + 6 * n))
    (hl : lv_has ls nL (xla ρ 0 L)) (hP : va_P D cl (xw ρ cA 0 h) T.heap) (hD : va_D A (xw ρ cA 0 h)) (hS : va_S A s.heap T.heap locs) {ig : Instr} (hdg : decode cc pc = .ok (ig, 3))
    {y : MethodName} {mk : MethodId} (hn : T.methodNamed? y = some mk) {ws : List Cond} {rm : Room} {F : xP} (hM : xMet cl y ws rm F) {maxL : Nat} (hcY : ∃ methY cY, T.vm.method? mk = some methY ∧ methY.code = some cY ∧ cY.maxLocals = maxL) (hG : xGood Ts ws)
    (hini : Cond.initialized y.cls ∈ Ts) (hex : ∀ c s ρ A, Ex c s ρ A → c.exceptionTable.isEmpty = true) {rc rk : Nat} (hrc : k0.1 + rc ≤ R.cells) (hrs : k0.2 + 6 * rc ≤ R.slots) (hkc : rm.cells = rk) (hks : rm.slots = 6 * rk) (hfr : rm.frames + 1 ≤ R.frames) (hlo : 8 + (maxL + 11) + rm.locals ≤ R.locals)
    (hst : xcs rest ≤ 8) (hro : n + rk ≤ rc)
    (hF : F vs h (fun r h' n' => match r with
      | .inl none => J (pc + 3, L, rest, h', n + n')
      | .inl (some v) => J (pc + 3, L, v :: rest, h', n + n')
      | .inr X => Q (.inr X) h' (n + n'))) :
    ∃ t, Steps p.tables e below (doInvoke e (T.setTop (F0 m pc ls (rest.map (xv ρ)))) [] mk (vs.map (xv ρ)).toArray).1 t ∧ xMQ k0 cl D cA ρ A Q s below t := by
  have hlk := hX.2.2.2.2.1
  have hex := hex _ _ _ _ hX.2.2.2.2.2.2.2.2.2.1
  refine x_callG (PT := fun Z h' n' => Q (.inr Z) h' (n + n')) hX hJ X hl hP hD hS hdg hn hM hcY hG hini hrc hrs hkc hks hfr hlo hst hro hF (fun Z h' n' T' locs' a cell hq X' hP' hD' hS' ha hv hc1 hc2 => ?_)
  obtain ⟨h1, h2, h3, h4, h5⟩ := X'.leaveThrown a (g := F0 m pc ls (rest.map (xv ρ))) rfl rfl rfl (fun x hx => by
    have : c.exceptionTable.toList = [] := by
      have := Array.isEmpty_iff.mp hex
      rw [this]
    rw [this] at hx
    cases hx) hlk
  exact ⟨_, h1, .threw a, h2, h3, .inr Z, h', n + n', hq, ⟨a, cell, rfl, ha, hv, hc1, hc2⟩, hP', hD', ⟨hS'.1, fun q z1 z2 => hS'.2.1 q z1 z2⟩, h4, locs', h5, hS'.2.2⟩
end XK

section XJ
variable {k0 : Nat × Nat} {Ex : Code → State → (Nat → Nat) → (Nat → Prop) → Prop} {cl : List vw_C} {own : String} {Ts : List Cond} {cc : ByteArray} {nL : Nat} {ret : Option FieldType} {R : Room} {pc : Nat}
theorem take_app {α : Type} (np : Nat) (st : List α) : (st.take np).reverse.reverse ++ st.drop np = st := by rw [List.reverse_reverse, List.take_append_drop]

theorem s_callS {F : xP} {np rc rk i : Nat} {y : MethodName} {ws ws' : List Cond} {rm : Room} {bytes : ByteArray} {maxL : Nat} {rt : Option FieldType} (hM : xMet cl y ws rm F) (hd : decode cc pc = .ok (.invokestatic i, 3)) (hw : ws = Cond.code y bytes maxL rt :: ws') (hG : xGood Ts ws)
    (hlink : Cond.methodLink own i y ∈ Ts) (hstat : Cond.static y ∈ Ts) (hini : Cond.initialized y.cls ∈ Ts) (hy : y.cls ≠ "java/lang/invoke/MethodHandle" ∧ y.cls ≠ "java/lang/invoke/VarHandle" ∧ (parseMethodDescriptor y.desc).map (fun d => d.parameters.length) = some np)
    (hrc : k0.1 + rc ≤ R.cells ∧ k0.2 + 6 * rc ≤ R.slots ∧ rm.cells = rk ∧ rm.slots = 6 * rk ∧ rm.frames + 1 ≤ R.frames ∧ 8 + (maxL + 11) + rm.locals ≤ R.locals) (hex : ∀ c s ρ A, Ex c s ρ A → c.exceptionTable.isEmpty = true) : xSd k0 Ex cl own Ts cc nL ret R (pc, o_call F np rc rk) := by
  intro p l e s m args below meth c D cA ρ A X Q J x hpc hJ ho H locs ls hl hP hD hS
  obtain ⟨pc', L, st, h, n⟩ := x
  obtain rfl : pc' = pc := hpc
  obtain ⟨h0, ho⟩ := bif_t ho
  rw [Bool.and_eq_true, Bool.and_eq_true] at h0
  dsimp only at h0 ho
  have hlen : (st.take np).length = np := by rw [List.length_take]; exact Nat.min_eq_left (Nat.le_of_ble_eq_true h0.1)
  intro T hT S
  subst hT
  have hts := X.2.2.2.2.2.2.1
  have hcw : Cond.code y bytes maxL rt ∈ ws := by rw [hw]; exact List.mem_cons_self
  have hcode := hts _ (hG _ hcw).1
  obtain ⟨mk, hnamed⟩ := Cond.code_named hcode
  obtain ⟨methM, cM, hmethM, hcM, -, hlM, -, -, -, hsigM⟩ := Cond.code_spec hnamed hcode
  have hstatic : methM.isStatic = true := Cond.static_spec hnamed hmethM (hts _ hstat)
  obtain ⟨kP, hkP, -⟩ := className_of_methodNamed hnamed
  have hinitP : kP.init = .initialized := Cond.initialized_spec (findClass_of_methodNamed hnamed) hkP (hts _ hini)
  have hpl : ((st.take np).reverse.map (xv ρ)).length = methM.sig.parameters.length := by
    have h2 := hy.2.2
    rw [hsigM] at h2
    rw [List.length_map, List.length_reverse, hlen]
    exact (Option.some.inj h2).symm
  obtain ⟨vm₁, X₁, hstep₁⟩ := S.invokestatic X.1 X.2.2.2.2.2.1 (hts _ hlink) hnamed hmethM hstatic hkP hinitP ⟨hy.1, hy.2.1⟩ (g := F0 m pc' ls (st.map (xv ρ))) rfl (argsL := (st.take np).reverse.map (xv ρ)) (rest := (st.drop np).map (xv ρ)) hpl (by
    show st.map (xv ρ) = _
    rw [← List.map_reverse, ← List.map_append, take_app]) (by rw [X.2.1]; exact hd)
  obtain ⟨t, a1, b1⟩ := x_call (T := T.setVm vm₁) X hJ (pc := pc') (ls := ls) (rest := st.drop np) (vs := (st.take np).reverse) X₁ hl hP hD hS hd (X₁.named hnamed) hM ⟨methM, cM, by rw [X₁.warmed.alike.method?]; exact hmethM, hcM, hlM⟩ hG hini hex hrc.1 hrc.2.1 hrc.2.2.1 hrc.2.2.2.1 hrc.2.2.2.2.1 hrc.2.2.2.2.2 (Nat.le_of_ble_eq_true h0.2.1) (Nat.le_of_ble_eq_true h0.2.2) ho
  exact ⟨t, hstep₁ _ fun acts => by rw [doInvoke_state]; exact a1, b1⟩
theorem s_callSN {F : xP} {np rc rk i : Nat} {host : String} {y : MethodName} {ws ws' : List Cond} {rm : Room} {bytes : ByteArray} {maxL : Nat} {rt : Option FieldType} (hM : xMet cl y ws rm F) (hd : decode cc pc = .ok (.invokestatic i, 3)) (hw : ws = Cond.code y bytes maxL rt :: ws') (hG : xGood Ts ws)
    (hlink : Cond.methodLinkNest own i y host ∈ Ts) (hstat : Cond.static y ∈ Ts) (hini : Cond.initialized y.cls ∈ Ts) (hy : y.cls ≠ "java/lang/invoke/MethodHandle" ∧ y.cls ≠ "java/lang/invoke/VarHandle" ∧ (parseMethodDescriptor y.desc).map (fun d => d.parameters.length) = some np)
    (hrc : k0.1 + rc ≤ R.cells ∧ k0.2 + 6 * rc ≤ R.slots ∧ rm.cells = rk ∧ rm.slots = 6 * rk ∧ rm.frames + 1 ≤ R.frames ∧ 8 + (maxL + 11) + rm.locals ≤ R.locals) (hex : ∀ c s ρ A, Ex c s ρ A → c.exceptionTable.isEmpty = true) : xSd k0 Ex cl own Ts cc nL ret R (pc, o_call F np rc rk) := by
  intro p l e s m args below meth c D cA ρ A X Q J x hpc hJ ho H locs ls hl hP hD hS
  obtain ⟨pc', L, st, h, n⟩ := x
  obtain rfl : pc' = pc := hpc
  obtain ⟨h0, ho⟩ := bif_t ho
  rw [Bool.and_eq_true, Bool.and_eq_true] at h0
  dsimp only at h0 ho
  have hlen : (st.take np).length = np := by rw [List.length_take]; exact Nat.min_eq_left (Nat.le_of_ble_eq_true h0.1)
  intro T hT S
  subst hT
  have hts := X.2.2.2.2.2.2.1
  have hcw : Cond.code y bytes maxL rt ∈ ws := by rw [hw]; exact List.mem_cons_self
  have hcode := hts _ (hG _ hcw).1
  obtain ⟨mk, hnamed⟩ := Cond.code_named hcode
  obtain ⟨methM, cM, hmethM, hcM, -, hlM, -, -, -, hsigM⟩ := Cond.code_spec hnamed hcode
  have hstatic : methM.isStatic = true := Cond.static_spec hnamed hmethM (hts _ hstat)
  obtain ⟨kP, hkP, -⟩ := className_of_methodNamed hnamed
  have hinitP : kP.init = .initialized := Cond.initialized_spec (findClass_of_methodNamed hnamed) hkP (hts _ hini)
  have hpl : ((st.take np).reverse.map (xv ρ)).length = methM.sig.parameters.length := by
    have h2 := hy.2.2
    rw [hsigM] at h2
    rw [List.length_map, List.length_reverse, hlen]
    exact (Option.some.inj h2).symm
  obtain ⟨vm₁, X₁, hstep₁⟩ := S.invokestaticNest X.1 X.2.2.2.2.2.1 (hts _ hlink) hnamed hmethM hstatic hkP hinitP ⟨hy.1, hy.2.1⟩ (g := F0 m pc' ls (st.map (xv ρ))) rfl (argsL := (st.take np).reverse.map (xv ρ)) (rest := (st.drop np).map (xv ρ)) hpl (by
    show st.map (xv ρ) = _
    rw [← List.map_reverse, ← List.map_append, take_app]) (by rw [X.2.1]; exact hd)
  obtain ⟨t, a1, b1⟩ := x_call (T := T.setVm vm₁) X hJ (pc := pc') (ls := ls) (rest := st.drop np) (vs := (st.take np).reverse) X₁ hl hP hD hS hd (X₁.named hnamed) hM ⟨methM, cM, by rw [X₁.warmed.alike.method?]; exact hmethM, hcM, hlM⟩ hG hini hex hrc.1 hrc.2.1 hrc.2.2.1 hrc.2.2.2.1 hrc.2.2.2.2.1 hrc.2.2.2.2.2 (Nat.le_of_ble_eq_true h0.2.1) (Nat.le_of_ble_eq_true h0.2.2) ho
  exact ⟨t, hstep₁ _ fun acts => by rw [doInvoke_state]; exact a1, b1⟩
/-- a call on an object: of the kind ci -/
def o_callV (F : xP) (ci np rc rk : Nat) : xOp := fun x k Q => match (x.2.2.1.drop np) with
  | .ref a :: _ => match x.2.2.2.1[a]? with
    | some (.inr (cj, _)) => bif Nat.beq cj ci then o_call F (np + 1) rc rk x k Q else False
    | _ => False
  | _ => False

theorem s_callV {F : xP} {ci np rc rk i : Nat} {C : String} {T0 : u_T} {N : Nat} {y : MethodName} {ws ws' : List Cond} {rm : Room} {bytes : ByteArray} {maxL : Nat} {rt : Option FieldType} (hM : xMet cl y ws rm F) (hd : decode cc pc = .ok (.invokevirtual i, 3)) (hw : ws = Cond.code y bytes maxL rt :: ws') (hG : xGood Ts ws) (hc : cl[ci]? = some (C, T0, N))
    (hlink : Cond.methodLink own i y ∈ Ts) (hinst : Cond.instanceMethod y ∈ Ts) (hsel : Cond.selects C y y ∈ Ts) (hini : Cond.initialized y.cls ∈ Ts) (hy : y.cls ≠ "java/lang/invoke/MethodHandle" ∧ y.cls ≠ "java/lang/invoke/VarHandle" ∧ (parseMethodDescriptor y.desc).map (fun d => d.parameters.length) = some np)
    (hrc : k0.1 + rc ≤ R.cells ∧ k0.2 + 6 * rc ≤ R.slots ∧ rm.cells = rk ∧ rm.slots = 6 * rk ∧ rm.frames + 1 ≤ R.frames ∧ 8 + (maxL + 11) + rm.locals ≤ R.locals) (hex : ∀ c s ρ A, Ex c s ρ A → c.exceptionTable.isEmpty = true) : xSd k0 Ex cl own Ts cc nL ret R (pc, o_callV F ci np rc rk) := by
  intro p l e s m args below meth c D cA ρ A X Q J x hpc hJ ho H locs ls hl hP hD hS
  obtain ⟨pc', L, st, h, n⟩ := x
  obtain rfl : pc' = pc := hpc
  dsimp only [o_callV] at ho
  split at ho
  · rename_i a r0 hdr
    split at ho
    · rename_i cj fs he
      obtain ⟨hcc, ho1⟩ := bif_t ho
      obtain rfl : cj = ci := Nat.eq_of_beq_eq_true hcc
      clear ho
      unfold o_call at ho1
      obtain ⟨h0, ho⟩ := bif_t ho1
      rw [Bool.and_eq_true, Bool.and_eq_true] at h0
      dsimp only at h0 ho
      have hdr1 : st.drop (np + 1) = r0 := by
        rw [← List.drop_drop, hdr]; rfl
      have hlt : np < st.length := Nat.le_of_ble_eq_true h0.1
      have hlen : (st.take np).length = np := by rw [List.length_take]; omega
      have htk : (st.take (np + 1)).reverse = .ref a :: (st.take np).reverse := by
        have e1 : st = st.take np ++ .ref a :: r0 := by rw [← hdr, List.take_append_drop]
        have e2 : st.take (np + 1) = st.take np ++ [.ref a] := by
          conv => lhs; rw [e1]
          rw [List.take_append, List.take_of_length_le (by omega), hlen]
          simp
        rw [e2]; simp
      intro T hT S
      subst hT
      have hts := X.2.2.2.2.2.2.1
      have hcw : Cond.code y bytes maxL rt ∈ ws := by rw [hw]; exact List.mem_cons_self
      have hcode := hts _ (hG _ hcw).1
      obtain ⟨mk, methM, hnamed, hmethM, hstM, habM⟩ := Cond.instanceMethod_spec (hts _ hinst)
      obtain ⟨methM', cM, hmethM', hcM, -, hlM, -, -, -, hsigM⟩ := Cond.code_spec hnamed hcode
      cases hmethM.symm.trans hmethM'
      obtain ⟨c2, r2, m2, q1, q2, q3, q4, kP, hkP, hkPi⟩ := Cond.selects_spec (hts _ hsel)
      obtain ⟨cell, hcell, hclB, hoB⟩ : ∃ cell : Cell, T.heap[ρ a]? = some cell ∧ s.vm.findClass C = some cell.cls ∧ cell.vm.isStatics = false := by
        obtain ⟨r, h1, cell, w1, w2, w3, w4⟩ := hP a _ (xw_at he)
        have hr : r = (C, T0, N) := Option.some.inj (h1.symm.trans hc)
        subst hr
        have hk1 := (X.2.2.2.2.2.2.2.1).1 _ _ hc
        exact ⟨cell, w1, by rw [w2]; exact hk1.2.1, by rw [w3]; rfl⟩
      cases hclB.symm.trans q1
      cases (State.methodFound?_of_named hnamed ⟨hy.1, hy.2.1⟩).symm.trans q2
      cases hnamed.symm.trans q3
      have hselP : selectMethod e.platform s.vm cell.cls mk = .method mk := by rw [Launch.admits_selectMethod S.admits]; exact q4
      have hpl : ((st.take np).reverse.map (xv ρ)).length = methM.sig.parameters.length := by
        have h2 := hy.2.2
        rw [hsigM] at h2
        rw [List.length_map, List.length_reverse, hlen]
        exact (Option.some.inj h2).symm
      obtain ⟨vm₁, X₁, hstep₁⟩ := S.invokevirtual X.1 X.2.2.2.2.2.1 (hts _ hlink) hnamed hmethM hstM hkP hkPi ⟨hy.1, hy.2.1⟩ (a := ρ a) (cell := cell) hcell (fun z q => by rw [q] at hoB; cases hoB) hselP hmethM habM hkP hkPi (g := F0 m pc' ls (st.map (xv ρ))) rfl (argsL := (st.take np).reverse.map (xv ρ)) (rest := (st.drop (np + 1)).map (xv ρ)) hpl (by
        show st.map (xv ρ) = _
        rw [← List.map_reverse, List.reverse_reverse, hdr1]
        conv => lhs; rw [← List.take_append_drop np st, hdr]
        rw [List.map_append]; rfl) (by rw [X.2.1]; exact hd)
      rw [htk] at ho
      obtain ⟨t, a1, b1⟩ := x_call (T := T.setVm vm₁) X hJ (pc := pc') (ls := ls) (rest := st.drop (np + 1)) (vs := .ref a :: (st.take np).reverse) X₁ hl hP hD hS hd (X₁.named hnamed) hM ⟨methM, cM, by rw [X₁.warmed.alike.method?]; exact hmethM, hcM, hlM⟩ hG hini hex hrc.1 hrc.2.1 hrc.2.2.1 hrc.2.2.2.1 hrc.2.2.2.2.1 hrc.2.2.2.2.2 (Nat.le_of_ble_eq_true h0.2.1) (Nat.le_of_ble_eq_true h0.2.2) ho
      exact ⟨t, hstep₁ _ fun acts => by rw [doInvoke_state]; exact a1, b1⟩
    · exact ho.elim
  · exact ho.elim
theorem s_callVN {F : xP} {ci np rc rk i : Nat} {C : String} {T0 : u_T} {N : Nat} {host : String} {y : MethodName} {ws ws' : List Cond} {rm : Room} {bytes : ByteArray} {maxL : Nat} {rt : Option FieldType} (hM : xMet cl y ws rm F) (hd : decode cc pc = .ok (.invokevirtual i, 3)) (hw : ws = Cond.code y bytes maxL rt :: ws') (hG : xGood Ts ws) (hc : cl[ci]? = some (C, T0, N))
    (hlink : Cond.methodLinkNest own i y host ∈ Ts) (hinst : Cond.instanceMethod y ∈ Ts) (hsel : Cond.selects C y y ∈ Ts) (hini : Cond.initialized y.cls ∈ Ts) (hy : y.cls ≠ "java/lang/invoke/MethodHandle" ∧ y.cls ≠ "java/lang/invoke/VarHandle" ∧ (parseMethodDescriptor y.desc).map (fun d => d.parameters.length) = some np)
    (hrc : k0.1 + rc ≤ R.cells ∧ k0.2 + 6 * rc ≤ R.slots ∧ rm.cells = rk ∧ rm.slots = 6 * rk ∧ rm.frames + 1 ≤ R.frames ∧ 8 + (maxL + 11) + rm.locals ≤ R.locals) (hex : ∀ c s ρ A, Ex c s ρ A → c.exceptionTable.isEmpty = true) : xSd k0 Ex cl own Ts cc nL ret R (pc, o_callV F ci np rc rk) := by
  intro p l e s m args below meth c D cA ρ A X Q J x hpc hJ ho H locs ls hl hP hD hS
  obtain ⟨pc', L, st, h, n⟩ := x
  obtain rfl : pc' = pc := hpc
  dsimp only [o_callV] at ho
  split at ho
  · rename_i a r0 hdr
    split at ho
    · rename_i cj fs he
      obtain ⟨hcc, ho1⟩ := bif_t ho
      obtain rfl : cj = ci := Nat.eq_of_beq_eq_true hcc
      clear ho
      unfold o_call at ho1
      obtain ⟨h0, ho⟩ := bif_t ho1
      rw [Bool.and_eq_true, Bool.and_eq_true] at h0
      dsimp only at h0 ho
      have hdr1 : st.drop (np + 1) = r0 := by
        rw [← List.drop_drop, hdr]; rfl
      have hlt : np < st.length := Nat.le_of_ble_eq_true h0.1
      have hlen : (st.take np).length = np := by rw [List.length_take]; omega
      have htk : (st.take (np + 1)).reverse = .ref a :: (st.take np).reverse := by
        have e1 : st = st.take np ++ .ref a :: r0 := by rw [← hdr, List.take_append_drop]
        have e2 : st.take (np + 1) = st.take np ++ [.ref a] := by
          conv => lhs; rw [e1]
          rw [List.take_append, List.take_of_length_le (by omega), hlen]
          simp
        rw [e2]; simp
      intro T hT S
      subst hT
      have hts := X.2.2.2.2.2.2.1
      have hcw : Cond.code y bytes maxL rt ∈ ws := by rw [hw]; exact List.mem_cons_self
      have hcode := hts _ (hG _ hcw).1
      obtain ⟨mk, methM, hnamed, hmethM, hstM, habM⟩ := Cond.instanceMethod_spec (hts _ hinst)
      obtain ⟨methM', cM, hmethM', hcM, -, hlM, -, -, -, hsigM⟩ := Cond.code_spec hnamed hcode
      cases hmethM.symm.trans hmethM'
      obtain ⟨c2, r2, m2, q1, q2, q3, q4, kP, hkP, hkPi⟩ := Cond.selects_spec (hts _ hsel)
      obtain ⟨cell, hcell, hclB, hoB⟩ : ∃ cell : Cell, T.heap[ρ a]? = some cell ∧ s.vm.findClass C = some cell.cls ∧ cell.vm.isStatics = false := by
        obtain ⟨r, h1, cell, w1, w2, w3, w4⟩ := hP a _ (xw_at he)
        have hr : r = (C, T0, N) := Option.some.inj (h1.symm.trans hc)
        subst hr
        have hk1 := (X.2.2.2.2.2.2.2.1).1 _ _ hc
        exact ⟨cell, w1, by rw [w2]; exact hk1.2.1, by rw [w3]; rfl⟩
      cases hclB.symm.trans q1
      cases (State.methodFound?_of_named hnamed ⟨hy.1, hy.2.1⟩).symm.trans q2
      cases hnamed.symm.trans q3
      have hselP : selectMethod e.platform s.vm cell.cls mk = .method mk := by rw [Launch.admits_selectMethod S.admits]; exact q4
      have hpl : ((st.take np).reverse.map (xv ρ)).length = methM.sig.parameters.length := by
        have h2 := hy.2.2
        rw [hsigM] at h2
        rw [List.length_map, List.length_reverse, hlen]
        exact (Option.some.inj h2).symm
      obtain ⟨vm₁, X₁, hstep₁⟩ := S.invokevirtualNest X.1 X.2.2.2.2.2.1 (hts _ hlink) hnamed hmethM hstM hkP hkPi ⟨hy.1, hy.2.1⟩ (a := ρ a) (cell := cell) hcell (fun z q => by rw [q] at hoB; cases hoB) hselP hmethM habM hkP hkPi (g := F0 m pc' ls (st.map (xv ρ))) rfl (argsL := (st.take np).reverse.map (xv ρ)) (rest := (st.drop (np + 1)).map (xv ρ)) hpl (by
        show st.map (xv ρ) = _
        rw [← List.map_reverse, List.reverse_reverse, hdr1]
        conv => lhs; rw [← List.take_append_drop np st, hdr]
        rw [List.map_append]; rfl) (by rw [X.2.1]; exact hd)
      rw [htk] at ho
      obtain ⟨t, a1, b1⟩ := x_call (T := T.setVm vm₁) X hJ (pc := pc') (ls := ls) (rest := st.drop (np + 1)) (vs := .ref a :: (st.take np).reverse) X₁ hl hP hD hS hd (X₁.named hnamed) hM ⟨methM, cM, by rw [X₁.warmed.alike.method?]; exact hmethM, hcM, hlM⟩ hG hini hex hrc.1 hrc.2.1 hrc.2.2.1 hrc.2.2.2.1 hrc.2.2.2.2.1 hrc.2.2.2.2.2 (Nat.le_of_ble_eq_true h0.2.1) (Nat.le_of_ble_eq_true h0.2.2) ho
      exact ⟨t, hstep₁ _ fun acts => by rw [doInvoke_state]; exact a1, b1⟩
    · exact ho.elim
  · exact ho.elim
end XJ
end
section
-- A NEW EXCEPTION IS MADE, WITH ITS MESSAGE, AND THROWN (over the library's laws of Throwable's constructors, launches without stack traces)
def xOwn (own : String) (ic : Nat) (X : String) (j : Nat) (bs : ByteArray) : List Cond := Bundle.throwableAtoms ++ (Bundle.throwableSAtoms ++ (Bundle.passSAtoms X Bundle.rN j bs ++ (Bundle.chainSAtoms Bundle.rN ["java/lang/Exception"] ++
  [.methodLink own ic (Bundle.initS X), .instantiable X 6, .selects X Bundle.tFill0 Bundle.tFill0, .selects X Bundle.tFill Bundle.tFill,
   .lays X Bundle.tN "cause" "Ljava/lang/Throwable;", .lays X Bundle.tN "stackTrace" Bundle.steD, .lays X Bundle.tN "suppressedExceptions" Bundle.listD, .lays X Bundle.tN "detailMessage" "Ljava/lang/String;",
   .isRef (.static Bundle.tN "UNASSIGNED_STACK" Bundle.steD), .isRef (.static Bundle.tN "SUPPRESSED_SENTINEL" Bundle.listD),
   .fieldLink Bundle.tN 198 Bundle.tN "backtrace" "Ljava/lang/Object;", .lays Bundle.tN Bundle.tN "backtrace" "Ljava/lang/Object;", .lays X Bundle.tN "backtrace" "Ljava/lang/Object;"])))
section XT
variable {p : Program} {l : Launch} {e : Env} {R : Room} {s : State} {m₀ : MethodId} {args : Array Value} {below : List Frame} {meth : Method} {c : Code} {W : State} {locs : List Loc} {cells slots : Nat}
set_option maxHeartbeats 1000000 in
theorem x_throw (X : Stand p l e R s m₀ args below meth c W locs cells slots) (hexec : p.tables.exec = Jvm.exec) (htr : e.platform.stackTraces = false) {own cls : String} {ic j : Nat} {bs : ByteArray}
    (hown : s.vm.findClass own = some m₀.cls) (hcls : Bundle.fit cls = true) (k0 : decode bs 0 = .ok (.aload_n 0, 1)) (k1 : decode bs 1 = .ok (.aload_n 1, 1)) (k2 : decode bs 2 = .ok (.invokespecial j, 3)) (k5 : decode bs 5 = .ok (.return_, 1))
    (h : ∀ a ∈ xOwn own ic cls j bs, a.before args s = true)
    (hkeep : ∀ (a : Nat) (cell : Cell), s.heap[a]? = some cell → cell.vm.isStatics = true → W.heap[a]? = some cell)
    {a : Addr} {cX : ClassId} {kX : Class} (hfoundX : s.vm.findClass cls = some cX) (hkX : s.vm.classes[cX]? = some kX) (hcell : W.heap[a]? = some (freshCell cX kX)) (hnew : s.heap.size ≤ a)
    {msg : Value} (hmsg : msg.isRef = true)
    {g : JFrame} (hg : g.method = m₀) (hsize : g.locals.size = c.maxLocals) (hlocked : g.locked = none) (hentered : g.entered = []) {rest : List Value} (hstack : g.stack = msg :: .ref a :: .ref a :: rest)
    (hd6 : decode c.code g.pc = .ok (.invokespecial ic, 3)) (hd9 : decode c.code (g.pc + 3) = .ok (.athrow, 1)) (hout : ∀ x ∈ c.exceptionTable.toList, covers x (g.pc + 3) = false)
    (hRframes : 5 < R.frames) (hRlocals : 2 * g.monitorRoom + ((Value.ref a :: rest).map fun v => v.category).sum + 81 ≤ R.locals) (hlocks : meth.locks = false) :
    ∃ (U : State) (ce : Cell), Steps p.tables e below (W.setTop g) U ∧ U.status = .running ∧ Ended U below (.threw a) ∧ s.WarmedH U.vm ∧ s.sameButNew ({ U with vm := s.vm } : State) locs cells slots ∧
      U.heap[a]? = some ce ∧ ce.cls = cX ∧ ce.vm = .none ∧ U.heap.size = W.heap.size ∧ ∀ q : Nat, q ≠ a → U.heap[q]? = W.heap[q]? := by
  have howns : e.platform.frameOwnsMonitors = true := by rw [X.admits.platform]
  have hfin : e.platform.finalization = false := by rw [X.admits.platform]
  have hpl : e.platform.magicAccessors = ({} : Platform).magicAccessors := by rw [X.admits.platform]
  have a' : ∀ x, x ∈ xOwn own ic cls j bs → x.holds args s none s [] = true := fun x hx => h x hx
  obtain ⟨T, Z0, L, -, Y⟩ := ThrowableC.of_atoms (args := args) howns hfin hpl (fun x hx => h x (by simp [xOwn, hx]))
  obtain ⟨Z, M, LZ, LM, hnZ⟩ := Init0T.ofS_atoms (args := args) hpl L Y (fun x hx => h x (by simp [xOwn, hx]))
  obtain ⟨P2, Ps, hlen, L2, hL, hP2m, hlink2, hlink⟩ := Bundle.chainS (args := args) hpl hnZ ["java/lang/Exception"] Bundle.rN (by decide +kernel) (by intro n hn; rcases List.mem_cons.mp hn with rfl | hn; decide +kernel; cases hn) (fun x hx => h x (by simp only [xOwn, List.mem_append]; exact Or.inr (Or.inr (Or.inr (Or.inl hx)))))
  obtain ⟨P1, L1, hP1m, hP1s⟩ := PassC.ofS_atoms (args := args) (s := s) hpl (X := cls) (Y := Bundle.rN) (Bundle.fit_spec hcls).1 (by decide +kernel) k0 k1 k2 k5 (fun x hx => h x (by simp only [xOwn, List.mem_append]; exact Or.inr (Or.inr (Or.inl hx))))
  have hlink1 : P1.sup = firstOf (Z.m T.toThrowableT) ((P2 :: Ps).map (·.toPassT)) := Option.some.inj (hP1s.symm.trans hP2m)
  have hfound : s.vm.findClass cls = some P1.m.cls := findClass_of_methodNamed hP1m
  cases Option.some.inj (hfoundX.symm.trans hfound)
  obtain ⟨c1, kX', hc1, hk, hord, -, -, hn6⟩ := Cond.instantiable_spec (a' (.instantiable cls 6) (by simp [xOwn]))
  cases Option.some.inj (hc1.symm.trans hfound)
  cases Option.some.inj (hkX.symm.trans hk)
  have hsel0 : selectMethod e.platform s.vm P1.m.cls T.fill0 = .method T.fill0 := by
    obtain ⟨c2, r2, m2, q1, q2, q3, q4, -⟩ := Cond.selects_spec (a' (.selects cls Bundle.tFill0 Bundle.tFill0) (by simp [xOwn]))
    cases Option.some.inj (q1.symm.trans hfound)
    cases Option.some.inj (q2.symm.trans (State.methodFound?_of_named Y.fill0 (by decide)))
    cases Option.some.inj (q3.symm.trans Y.fill0)
    rw [Launch.admits_selectMethod X.admits]; exact q4
  have hselF : selectMethod e.platform s.vm P1.m.cls T.fill = .method T.fill := by
    obtain ⟨c2, r2, m2, q1, q2, q3, q4, -⟩ := Cond.selects_spec (a' (.selects cls Bundle.tFill Bundle.tFill) (by simp [xOwn]))
    cases Option.some.inj (q1.symm.trans hfound)
    cases Option.some.inj (q2.symm.trans (State.methodFound?_of_named Y.fill (by decide)))
    cases Option.some.inj (q3.symm.trans Y.fill)
    rw [Launch.admits_selectMethod X.admits]; exact q4
  obtain ⟨cellS, hcS0, hiss⟩ := Y.statics
  obtain ⟨u0, hu0⟩ := Cond.staticRefV Y.unassigned L.unassignedStatic L.statics hcS0 hiss (a' (.isRef (.static Bundle.tN "UNASSIGNED_STACK" Bundle.steD)) (by simp [xOwn]))
  obtain ⟨sen, hsen⟩ := Cond.staticRefV Y.sentinel L.sentinelStatic L.statics hcS0 hiss (a' (.isRef (.static Bundle.tN "SUPPRESSED_SENTINEL" Bundle.listD)) (by simp [xOwn]))
  obtain ⟨ci198, i198, fB, hk198, hg198, ha198, hsB, -, hnB, htB, hffB⟩ := Cond.ownField (t := .object "java/lang/Object") Y.found L.cls (by decide +kernel) (a' (.fieldLink Bundle.tN 198 Bundle.tN "backtrace" "Ljava/lang/Object;") (by simp [xOwn])) (a' (.lays Bundle.tN Bundle.tN "backtrace" "Ljava/lang/Object;") (by simp [xOwn])) e.platform hpl
  have hcellS : W.heap[T.aS]? = some cellS := hkeep _ _ hcS0 hiss
  have hknownS : cellS.vm ≠ .unknown := by
    intro hu
    rw [hu] at hiss
    cases hiss
  have hneS : T.aS ≠ a := Nat.ne_of_lt (Nat.lt_of_lt_of_le (Array.getElem?_eq_some_iff.mp hcS0).1 hnew)
  obtain ⟨iM, hffM⟩ := Y.msg
  obtain ⟨tyC, dC, hdC, hdnC⟩ := Cond.laysAt hfound hk Y.cause (a' (.lays cls Bundle.tN "cause" "Ljava/lang/Throwable;") (by simp [xOwn]))
  obtain ⟨tyS, dS, hdS, hdnS⟩ := Cond.laysAt hfound hk Y.stack (a' (.lays cls Bundle.tN "stackTrace" Bundle.steD) (by simp [xOwn]))
  obtain ⟨tyP, dP, hdP, hdnP⟩ := Cond.laysAt hfound hk Y.supp (a' (.lays cls Bundle.tN "suppressedExceptions" Bundle.listD) (by simp [xOwn]))
  obtain ⟨tyM, dM, hdM, hdnM⟩ := Cond.laysAt hfound hk hffM (a' (.lays cls Bundle.tN "detailMessage" "Ljava/lang/String;") (by simp [xOwn]))
  obtain ⟨tyB, dB, hdB, hdnB⟩ := Cond.laysAt hfound hk hffB (a' (.lays cls Bundle.tN "backtrace" "Ljava/lang/Object;") (by simp [xOwn]))
  have bC := Cond.laysApart hdB hdC hdnB hdnC (by rw [hnB, Y.causeName]; decide)
  have bS := Cond.laysApart hdB hdS hdnB hdnS (by rw [hnB, Y.stackName]; decide)
  have bP := Cond.laysApart hdB hdP hdnB hdnP (by rw [hnB, Y.suppName]; decide)
  have hskip : SkipFacts T e.platform s (fun u => u) u0 ((preparedCellV T.toThrowableT (freshCell P1.m.cls kX) a u0 sen).withEntry W.cur) :=
    ⟨{ ci198 := ci198, i198 := i198, fBack := fB }, ⟨hk198, hg198, ha198, hsB⟩, by
      have := fresh_default (c := P1.m.cls) tyB
      rw [htB] at this
      simpa [preparedCellV, Cell.setSlot, Cell.withEntry, Array.getElem?_setIfInBounds, bC, bS, bP, bC.symm, bS.symm, bP.symm, defaultValue] using this, fun _ _ => rfl⟩
  obtain ⟨tm, methC, cdC, kC, vm₁, hnC, -, -, -, -, -, -, -, hW₁, st1⟩ := Steps.initColdS (tb := p.tables) (e := e) (below := below) (s := s) (U := W) X.here hexec X.warmed hpl hown (t := Bundle.initS cls) rfl rfl (Bundle.fit_spec hcls).2
    (a' (.methodLink own ic (Bundle.initS cls)) (by simp [xOwn])) (h (.instanceMethod (Bundle.initS cls)) (by simp [xOwn, Bundle.passSAtoms])) (bytes := bs) (maxL := 2) (h (.code (Bundle.initS cls) bs 2 none) (by simp [xOwn, Bundle.passSAtoms]))
    (f := g) hg (a := a) (msg := msg) (rest := .ref a :: rest) hstack hd6
  cases Option.some.inj (hnC.symm.trans hP1m)
  have X₁ := X.noted hW₁
  obtain ⟨vm₂, X₂, st2⟩ := X₁.ctorMessageOffV hexec (g := { g with stack := .ref a :: rest }) hg hsize T L Z LZ M LM (P1 :: P2 :: Ps)
    (fun P hP => by rcases List.mem_cons.mp hP with rfl | hP; exact L1; rcases List.mem_cons.mp hP with rfl | hP; exact L2; exact hL P hP) ⟨hlink1, hlink2, hlink⟩ (u0 := u0) (sen := sen) (self := a) hmsg (cell := freshCell P1.m.cls kX) (cellS := cellS)
    hcell (fun _ => by simp) (by simp) rfl rfl hsel0 hselF hcellS hneS hknownS hu0 hsen
    (Takes.of_laid hk hord tyC (by rw [Y.causeType]; rfl)) (Takes.of_laid hk hord tyS (by rw [Y.stackType]; exact fits_refV_array _ u0)) (Takes.of_laid hk hord tyP (by rw [Y.suppType]; exact fits_refV_object _ sen))
    (Takes.of_laid hk hord tyM (by rw [Y.msgType]; exact fits_refV_object _ ⟨msg, hmsg⟩)) Y.objLocals hskip htr [] hd6
    (by simp only [List.length_cons, hlen, List.length_nil]; omega) (by simp only [List.length_cons, hlen, List.length_nil]; exact hRlocals)
  obtain ⟨hwalk, hrun, hended, hWU, hsame⟩ := X₂.athrowLeaves hexec (g := { g with stack := .ref a :: rest, pc := g.pc + 3 }) hg hlocked hentered hout (a := a) (rest := rest) rfl hd9 hlocks
  have hlt : a < ((W.setVm vm₁).setVm vm₂).heap.size := (Array.getElem?_eq_some_iff.mp hcell).1
  have hU := heapAt_setCell_self (s := (W.setVm vm₁).setVm vm₂) (plainBareV T.toThrowableT (freshCell P1.m.cls kX) a u0 sen msg) hlt
  refine ⟨_, _, st1 _ (fun acts => ?_), hrun, hended, hWU, hsame.weaken (fun y hy hlt' => ?_) (Nat.le_refl _) (Nat.le_refl _), hU, rfl, rfl, ?_, fun q hq => ?_⟩
  · rw [doInvoke_state]
    exact st2 _ hwalk
  · rcases List.mem_append.mp hy with h1 | h1
    · exact h1
    · exfalso
      have hb : y.base = a := by
        simp only [List.mem_cons, List.not_mem_nil, or_false] at h1
        rcases h1 with rfl | rfl | rfl | rfl | rfl <;> rfl
      rw [hb] at hlt'
      exact Nat.not_lt.mpr hnew hlt'
  · exact size_setCell _ _ _
  · show (W.heap.setIfInBounds a _)[q]? = W.heap[q]?
    exact Array.getElem?_setIfInBounds_ne (fun z => hq z.symm)
end XT
end
section
def xHw : List Cond := [.laysStatic "java/lang/Throwable" "UNASSIGNED_STACK" "[Ljava/lang/StackTraceElement;", .isRef (.static "java/lang/Throwable" "UNASSIGNED_STACK" "[Ljava/lang/StackTraceElement;"), .laysStatic "java/lang/Throwable" "SUPPRESSED_SENTINEL" "Ljava/util/List;", .isRef (.static "java/lang/Throwable" "SUPPRESSED_SENTINEL" "Ljava/util/List;")]
theorem xHs_w {s : State} {args : Array Value} (h : xHs s) : ∀ w ∈ xHw, w.before args s = true := by
  have k1 := ls_kept (U := s) (args' := args) (Vm.Alike.refl s.vm) (fun _ _ q _ => q) h.2.1.1
  have k2 := ls_kept (U := s) (args' := args) (Vm.Alike.refl s.vm) (fun _ _ q _ => q) h.2.2.1
  exact List.forall_mem_cons.mpr ⟨k1.1, List.forall_mem_cons.mpr ⟨k1.2 h.2.1.2, List.forall_mem_cons.mpr ⟨k2.1, List.forall_mem_cons.mpr ⟨k2.2 h.2.2.2, fun _ q => absurd q List.not_mem_nil⟩⟩⟩⟩
def o_throw (Z rc : Nat) : xOp := fun x _ Q => match x.2.2.1 with
  | [] => bif Nat.ble (x.2.2.2.2 + 1) rc then Q (.inr Z) x.2.2.2.1 (x.2.2.2.2 + 1) else False
  | _ => False
section XT
variable {k0 : Nat × Nat} {Ex : Code → State → (Nat → Nat) → (Nat → Prop) → Prop} {cl : List vw_C} {own : String} {Ts : List Cond} {cc : ByteArray} {nL : Nat} {ret : Option FieldType} {R : Room} {pc : Nat}
theorem s_throw {Z rc i ik ic j : Nat} {bs : ByteArray} {tx : String} (hd0 : decode cc pc = .ok (.new i, 3)) (hd3 : decode cc (pc + 3) = .ok (.dup, 1)) (hd4 : decode cc (pc + 4) = .ok (.ldc ik, 2)) (hd6 : decode cc (pc + 6) = .ok (.invokespecial ic, 3)) (hd9 : decode cc (pc + 9) = .ok (.athrow, 1))
    (hcl : Cond.classLink own i (xEx Z) ∈ Ts) (hins : Cond.instantiable (xEx Z) 6 ∈ Ts) (hini : Cond.initialized (xEx Z) ∈ Ts) (hstr : Cond.stringRef own ik tx ∈ Ts) (hfit : Bundle.fit (xEx Z) = true) (kd0 : decode bs 0 = .ok (.aload_n 0, 1)) (kd1 : decode bs 1 = .ok (.aload_n 1, 1)) (kd2 : decode bs 2 = .ok (.invokespecial j, 3)) (kd5 : decode bs 5 = .ok (.return_, 1))
    (how : ∀ w ∈ xOwn own ic (xEx Z) j bs, w ∈ Ts ∨ w ∈ xHw) (hrc : k0.1 + rc ≤ R.cells ∧ k0.2 + 6 * rc ≤ R.slots ∧ 5 < R.frames ∧ 82 ≤ R.locals) (hexE : ∀ c s ρ A, Ex c s ρ A → c.exceptionTable.isEmpty = true) : xSd k0 Ex cl own Ts cc nL ret R (pc, o_throw Z rc) := by
  intro p l e s m args below meth c D cA ρ A X Q J x hpc hJ ho H locs ls hl hP hD hS
  obtain ⟨pc', L, st, h, n⟩ := x
  obtain rfl : pc' = pc := hpc
  dsimp only [o_throw] at ho
  split at ho
  · obtain ⟨h1, h2⟩ := bif_t ho
    have hn : n + 1 ≤ rc := Nat.le_of_ble_eq_true h1
    obtain ⟨hx, hb, hml, hr, hlk, hown, hts, hK, hA, hex0, hlo, hns, hHs⟩ := X
    have hex := hexE _ _ _ _ hex0
    refine W.newc hx hb hown (hts _ hcl) (hts _ hins) (hts _ hini) (g := F0 m pc' ls ([].map (xv ρ))) rfl hd0 (by show k0.1 + n + 1 ≤ R.cells; have := hrc.1; omega) (by show k0.2 + 6 * n + 6 ≤ R.slots; have := hrc.2.1; omega) (fun cC kC hf hkC _ _ => ?_)
    refine lv_dup hx hb hd3 rfl ?_
    obtain ⟨_, _, _, q, -, -, -, -, -, hev⟩ := Cond.stringRef_spec hown (hts _ hstr)
    have hts0 := hts
    intro T hT S
    have hsize : ls.size = c.maxLocals := by rw [hml]; exact hl.1
    have st1 := S.ldcString hx hown (hts _ hstr) hev (g := F0 m (pc' + 3 + 1) ls [.ref H.size, .ref H.size]) rfl (by rw [hb]; exact hd4)
    have hs1 : s.heap.size ≤ H.size := hS.1
    have hput : ∀ z : Nat, z < H.size → T.heap[z]? = H[z]? := fun z hz => by rw [hT]; exact Array.getElem?_push_lt hz ▸ by simp [Array.getElem?_push, Nat.ne_of_lt hz]
    have hsz : T.heap.size = H.size + 1 := by rw [hT]; simp
    have hkeep : ∀ (a : Nat) (cell : Cell), s.heap[a]? = some cell → cell.vm.isStatics = true → T.heap[a]? = some cell := fun a cell q1 q2 => by
      have hlt : a < H.size := Nat.lt_of_lt_of_le (Array.getElem?_eq_some_iff.mp q1).1 hs1
      rw [hput a hlt]
      exact x_stat hS hns a cell q1 q2
    obtain ⟨U, ce, e1, e2, e3, e4, e5, e6, e7, e8, e9, e10⟩ := x_throw S hx (hlo e S.admits) (own := own) (cls := xEx Z) hown hfit kd0 kd1 kd2 kd5 (fun w hw => (how w hw).elim (fun q => hts _ q) (fun q => xHs_w hHs _ q)) hkeep (a := H.size) hf hkC (by rw [hT]; simp [freshCell]) hs1 (msg := .ref q) rfl
      (g := F0 m (pc' + 3 + 1 + 2) ls [.ref q, .ref H.size, .ref H.size]) rfl hsize rfl rfl (rest := []) rfl (by rw [hb]; exact hd6) (by rw [hb]; exact hd9) (fun x hx => by
        have : c.exceptionTable.toList = [] := by rw [Array.isEmpty_iff.mp hex]
        rw [this] at hx
        cases hx) hrc.2.2.1 (by show 2 * 0 + (1 + 0) + 81 ≤ R.locals; omega) hlk
    have hU : ∀ z : Nat, z < H.size → U.heap[z]? = H[z]? := fun z hz => by rw [e10 z (Nat.ne_of_lt hz), hput z hz]
    refine ⟨U, st1 U e1, .threw H.size, e2, e3, .inr Z, h, n + 1, h2, ⟨H.size, ce, rfl, e6, (fun k q => by rw [e8] at q; cases q), (by rw [e7]; exact hf), kC, (by rw [e7]; exact hkC)⟩, hP.kept (fun k y hy => hU _ ((hP k y hy).lt)), hD, ⟨by rw [e9, hsz]; omega, fun z q1 q2 => by rw [hU z (Nat.lt_of_lt_of_le q1 hs1)]; exact hS.2.1 z q1 q2⟩, e4, locs, e5, hS.2.2⟩
  · exact ho.elim
def o_max (rc : Nat) : xOp := fun x k _ => match x.2.2.1 with
  | .int b :: .int a :: r => bif Nat.ble (xcs r) 8 && Nat.ble x.2.2.2.2 rc then k (x.1 + 3, x.2.1, .int (if a < b then b else a) :: r, x.2.2.2.1, x.2.2.2.2) else False
  | _ => False
def o_min (rc : Nat) : xOp := fun x k _ => match x.2.2.1 with
  | .int b :: .int a :: r => bif Nat.ble (xcs r) 8 && Nat.ble x.2.2.2.2 rc then k (x.1 + 3, x.2.1, .int (if b < a then b else a) :: r, x.2.2.2.1, x.2.2.2.2) else False
  | _ => False
theorem s_max {i : Nat} (hd : decode cc pc = .ok (.invokestatic i, 3)) (hlink : Cond.methodLink own i Lib.Math.max.name ∈ Ts) (hstat : Cond.static Lib.Math.max.name ∈ Ts) (hini : Cond.initialized "java/lang/Math" ∈ Ts) (hcode : Cond.code Lib.Math.max.name Lib.Math.max.code 2 (some .int) ∈ Ts) (hr : 1 ≤ R.frames ∧ 21 ≤ R.locals ∧ True) {rc : Nat} (hrc : k0.1 + rc ≤ R.cells ∧ k0.2 + 6 * rc ≤ R.slots) : xSd k0 Ex cl own Ts cc nL ret R (pc, o_max rc) := by
  intro p l e s m args below meth c D cA ρ A X Q J x hpc hJ ho H locs ls hl hP hD hS
  obtain ⟨pc', L, st, h, n⟩ := x
  obtain rfl : pc' = pc := hpc
  dsimp only [o_max] at ho
  split at ho
  · rename_i b a r
    obtain ⟨h1, h2⟩ := bif_t ho
    obtain ⟨hx, hb, hml, -, -, hown, hts, -⟩ := X
    rw [Bool.and_eq_true] at h1
    have h3 : xcs r ≤ 8 := Nat.le_of_ble_eq_true h1.1
    have h4 : n ≤ rc := Nat.le_of_ble_eq_true h1.2
    refine va_mmax hx hb (by rw [hml]; exact hl.1.symm) hown (hts _ hlink) (hts _ hstat) (hts _ hini) (hts _ hcode) hr.1 (by rw [xcs_map]; omega) (by show k0.1 + n ≤ R.cells; have := hrc.1; omega) (by show k0.2 + 6 * n ≤ R.slots; have := hrc.2; omega) hd (hJ _ h2 H locs ls hl hP hD hS)
  · exact ho.elim
theorem s_min {i : Nat} (hd : decode cc pc = .ok (.invokestatic i, 3)) (hlink : Cond.methodLink own i Lib.Math.min.name ∈ Ts) (hstat : Cond.static Lib.Math.min.name ∈ Ts) (hini : Cond.initialized "java/lang/Math" ∈ Ts) (hcode : Cond.code Lib.Math.min.name Lib.Math.min.code 2 (some .int) ∈ Ts) (hr : 1 ≤ R.frames ∧ 21 ≤ R.locals ∧ True) {rc : Nat} (hrc : k0.1 + rc ≤ R.cells ∧ k0.2 + 6 * rc ≤ R.slots) : xSd k0 Ex cl own Ts cc nL ret R (pc, o_min rc) := by
  intro p l e s m args below meth c D cA ρ A X Q J x hpc hJ ho H locs ls hl hP hD hS
  obtain ⟨pc', L, st, h, n⟩ := x
  obtain rfl : pc' = pc := hpc
  dsimp only [o_min] at ho
  split at ho
  · rename_i b a r
    obtain ⟨h1, h2⟩ := bif_t ho
    obtain ⟨hx, hb, hml, -, -, hown, hts, -⟩ := X
    rw [Bool.and_eq_true] at h1
    have h3 : xcs r ≤ 8 := Nat.le_of_ble_eq_true h1.1
    have h4 : n ≤ rc := Nat.le_of_ble_eq_true h1.2
    refine va_mmin hx hb (by rw [hml]; exact hl.1.symm) hown (hts _ hlink) (hts _ hstat) (hts _ hini) (hts _ hcode) hr.1 (by rw [xcs_map]; omega) (by show k0.1 + n ≤ R.cells; have := hrc.1; omega) (by show k0.2 + 6 * n ≤ R.slots; have := hrc.2; omega) hd (hJ _ h2 H locs ls hl hP hD hS)
  · exact ho.elim
def o_copyl : xOp := fun x k _ => match x.2.2.1 with
  | .int n :: .int dp :: .ref a :: .int sp :: .ref a0 :: r => match x.2.2.2.1[a0]? with
    | some (.inl (1, (n0, .inr (.inl f)))) => match x.2.2.2.1[a]? with
      | some (.inl (1, (n1, .inr (.inl g)))) => bif Nat.ble (xcs r) 8 then ((¬ sp < 0 ∧ ¬ dp < 0 ∧ ¬ n < 0) ∧ sp.toNatClampNeg + n.toNatClampNeg ≤ n0 ∧ dp.toNatClampNeg + n.toNatClampNeg ≤ n1) ∧ k (x.1 + 3, x.2.1, r, x.2.2.2.1.set a (.inl (1, (n1, .inr (.inl (va_cpy f g sp.toNatClampNeg dp.toNatClampNeg n.toNatClampNeg))))), x.2.2.2.2) else False
      | _ => False
    | _ => False
  | _ => False
theorem s_copyl {i : Nat} (hd : decode cc pc = .ok (.invokestatic i, 3)) (hlink : Cond.methodLink own i arraycopyName ∈ Ts) (hnat : Cond.native arraycopyName ∈ Ts) (hstat : Cond.static arraycopyName ∈ Ts) (hini : Cond.initialized "java/lang/System" ∈ Ts) (hr : 1 ≤ R.frames ∧ 8 + (nativeFrameWords "java/lang/System" "arraycopy" 5 + 11) ≤ R.locals) : xSd k0 Ex cl own Ts cc nL ret R (pc, o_copyl) := by
  intro p l e s m args below meth c D cA ρ A X Q J x hpc hJ ho H locs ls hl hP hD hS
  obtain ⟨pc', L, st, h, n⟩ := x
  obtain rfl : pc' = pc := hpc
  dsimp only [o_copyl] at ho
  split at ho
  · rename_i k dp a sp a0 r
    split at ho
    · rename_i n0 f he0
      split at ho
      · rename_i n1 g he1
        obtain ⟨hxx, ho⟩ := bif_t ho
        obtain ⟨⟨⟨z1, z2, z3⟩, z4, z5⟩, z6⟩ := ho
        obtain ⟨hx, hb, hml, -, -, hown, hts, hK, -⟩ := X
        have h3 : xcs r ≤ 8 := Nat.le_of_ble_eq_true hxx
        refine va_copyl hx hb (by rw [hml]; exact hl.1.symm) hown (hts _ hlink) (hts _ hnat) (hts _ hstat) (hts _ hini) hK hP hD hS a0 a 1 1 (ty := .long) (xw_at he0) (xw_at he1) rfl rfl rfl z1 z2 z3 z4 z5 (fun _ _ => rfl) hr.1 (by rw [xcs_map]; omega) hd (fun H1 locs1 hP1 hD1 hS1 => ?_)
        have e := xw_set0 (ρ := ρ) (cA := cA) h a (.inl (1, (n1, .inr (.inl (va_cpy f g sp.toNatClampNeg dp.toNatClampNeg k.toNatClampNeg)))))
        exact hJ _ z6 H1 locs1 ls hl (by rw [← e]; exact hP1) (by rw [← e]; exact hD1) hS1
      · exact ho.elim
    · exact ho.elim
  · exact ho.elim
end XT
end
section
-- A CALL WHOSE EXCEPTIONS ARE CAUGHT BY NAME: the rows of the exception table are searched, their class constants linked or not
section XH
variable {Q : Handler → Pre} {E : CtlPost} {e : Env} {d : Bool} {acts : List Action} {s : State} {f : JFrame} {a : Addr}
theorem x_goYes {x : ExceptionTableEntry} {t : List ExceptionTableEntry} {c : ClassId} {cell : Cell} (hx : covers x f.pc = true) (h0 : x.catchType ≠ 0) (hl : s.vm.ClassLinks e.platform f.method.cls x.catchType c) (hcell : s.heap[a]? = some cell) (hobj : ∀ k, cell.vm ≠ .statics k)
    (hk : ∃ k, s.vm.classes[cell.cls]? = some k) (hc : ∃ k, s.vm.classes[c]? = some k) (hfit : s.vm.assignable cell.cls c = true) :
    wp (findHandler.go f a (x :: t)) Q E e d acts s ↔ Q (.found x.handlerPc) d acts (s.setVm (s.vm.noted f.method.cls x.catchType (.cls c))) := by
  simp only [covers] at hx
  obtain ⟨ha, ht⟩ := (resolveClass_links e.toSetting hl).op (op := VmOp.resolveClass f.method.cls x.catchType) rfl
  have hal : s.vm.Alike (s.vm.noted f.method.cls x.catchType (.cls c)) := (Vm.Alike.refl s.vm).noted _ _ _
  obtain ⟨k1, hk1⟩ := hk
  obtain ⟨k2, hk2⟩ := hc
  obtain ⟨k1', hk1', -⟩ := hal.2.2 _ _ hk1
  obtain ⟨k2', hk2', -⟩ := hal.2.2 _ _ hk2
  have hfit' : (s.vm.noted f.method.cls x.catchType (.cls c)).assignable cell.cls c = true := by rw [hal.assignable]; exact hfit
  simp [findHandler.go, hx, h0, ha, ht, hcell, hobj, hk1', hk2', hfit', VmOp.dirties, VmOp.acts]
theorem x_goNo {x : ExceptionTableEntry} {t : List ExceptionTableEntry} {c : ClassId} {cell : Cell} (hx : covers x f.pc = true) (h0 : x.catchType ≠ 0) (hl : s.vm.ClassLinks e.platform f.method.cls x.catchType c) (hcell : s.heap[a]? = some cell) (hobj : ∀ k, cell.vm ≠ .statics k)
    (hk : ∃ k, s.vm.classes[cell.cls]? = some k) (hc : ∃ k, s.vm.classes[c]? = some k) (hno : s.vm.assignable cell.cls c = false) :
    wp (findHandler.go f a (x :: t)) Q E e d acts s ↔ wp (findHandler.go f a t) Q E e d acts (s.setVm (s.vm.noted f.method.cls x.catchType (.cls c))) := by
  simp only [covers] at hx
  obtain ⟨ha, ht⟩ := (resolveClass_links e.toSetting hl).op (op := VmOp.resolveClass f.method.cls x.catchType) rfl
  have hal : s.vm.Alike (s.vm.noted f.method.cls x.catchType (.cls c)) := (Vm.Alike.refl s.vm).noted _ _ _
  obtain ⟨k1, hk1⟩ := hk
  obtain ⟨k2, hk2⟩ := hc
  obtain ⟨k1', hk1', -⟩ := hal.2.2 _ _ hk1
  obtain ⟨k2', hk2', -⟩ := hal.2.2 _ _ hk2
  have hno' : (s.vm.noted f.method.cls x.catchType (.cls c)).assignable cell.cls c = false := by rw [hal.assignable]; exact hno
  simp [findHandler.go, hx, h0, ha, ht, hcell, hobj, hk1', hk2', hno', VmOp.dirties, VmOp.acts]
end XH
/-- what the search gives and the tables that it leaves -/
def xFinds (e : Env) (s : State) (f : JFrame) (a : Addr) (hp : Nat) (vm' : Vm) : Prop := ∀ (Q : Handler → Pre) (E : CtlPost) (d : Bool) (acts : List Action), wp (findHandler f a) Q E e d acts s ↔ Q (.found hp) d acts (s.setVm vm')
theorem x_search {e : Env} {s₀ : State} {f : JFrame} {a : Addr} {cell : Cell} (hobj : ∀ k, cell.vm ≠ .statics k) (hk0 : ∃ k, s₀.vm.classes[cell.cls]? = some k) (x : ExceptionTableEntry) (rest : List ExceptionTableEntry) (hx : covers x f.pc = true) (h0 : x.catchType ≠ 0)
    {c : ClassId} (hl : s₀.vm.ClassLinks e.platform f.method.cls x.catchType c) (hfit : s₀.vm.assignable cell.cls c = true) :
    ∀ (pre : List ExceptionTableEntry) (S : State), s₀.WarmedH S.vm → S.heap[a]? = some cell → (∀ y ∈ pre, covers y f.pc = true ∧ y.catchType ≠ 0 ∧ ∃ c, s₀.vm.ClassLinks e.platform f.method.cls y.catchType c ∧ s₀.vm.assignable cell.cls c = false) →
      ∃ vm', s₀.WarmedH vm' ∧ ∀ (Q : Handler → Pre) (E : CtlPost) (d : Bool) (acts : List Action), wp (findHandler.go f a (pre ++ x :: rest)) Q E e d acts S ↔ Q (.found x.handlerPc) d acts (S.setVm vm') := by
  obtain ⟨k0, hk0⟩ := hk0
  intro pre
  induction pre with
  | nil =>
    intro S hW hcell _
    obtain ⟨k0', hk0', -⟩ := hW.alike.2.2 _ _ hk0
    obtain ⟨dk, _, _, kt, hd, _, _, _, _, hkt, _, hcold⟩ := hl.here
    obtain ⟨kt', hkt', -⟩ := hW.alike.2.2 _ _ hkt
    refine ⟨_, hW.noted hd hcold (State.rightAt_cls hl), fun Q E d acts => ?_⟩
    rw [List.nil_append]
    exact x_goYes hx h0 (hW.classLinks hl) hcell hobj ⟨k0', hk0'⟩ ⟨kt', hkt'⟩ (by rw [hW.alike.assignable]; exact hfit)
  | cons y ys ih =>
    intro S hW hcell hpass
    obtain ⟨k0', hk0', -⟩ := hW.alike.2.2 _ _ hk0
    obtain ⟨hcov, hy0, c', hl', hno⟩ := hpass y (List.mem_cons_self ..)
    obtain ⟨dk, _, _, kt, hd, _, _, _, _, hkt, _, hcold⟩ := hl'.here
    obtain ⟨kt', hkt', -⟩ := hW.alike.2.2 _ _ hkt
    obtain ⟨vm', hW', hq⟩ := ih (S.setVm (S.vm.noted f.method.cls y.catchType (.cls c'))) (hW.noted hd hcold (State.rightAt_cls hl')) hcell (fun z hz => hpass z (List.mem_cons_of_mem _ hz))
    refine ⟨vm', hW', fun Q E d acts => ?_⟩
    rw [List.cons_append, x_goNo hcov hy0 (hW.classLinks hl') hcell hobj ⟨k0', hk0'⟩ ⟨kt', hkt'⟩ (by rw [hW.alike.assignable]; exact hno)]
    exact hq Q E d acts
theorem x_catchStep {e : Env} {s : State} {a : Addr} {f : JFrame} {r : List Frame} {pc : Nat} {vm' : Vm} (hfind : xFinds e s f a pc vm') :
    (stepThrowing e s a (.java f :: r)).Is ((s.setVm vm').setFrames (.java { f with pc := pc, stack := [.ref a] } :: r)) [] := by
  simp only [stepThrowing, searchFrame, vmDo]
  generalize hr : Sem.go _ e false [] s = res
  obtain ⟨as, rfl, ha⟩ := Sem.eq_ok_of hr (a := Handler.found pc) (s' := s.setVm vm') (acts' := []) (by simp [hfind _ _ _ _])
  exact ⟨rfl, ha⟩
theorem x_caught {tb : Tables} {e : Env} {s target : State} {g : JFrame} {c : Code} {below : List Frame} {a : Addr} (h : At s g.method c below) {pc : Nat} {vm' : Vm}
    (hfind : xFinds e ((s.setTop g).pushFrame (.throwing a)) g a pc vm') (hrest : Steps tb e below ((s.setVm vm').setTop { g with pc := pc, stack := [.ref a] }) target) :
    Steps tb e below ((s.setTop g).pushFrame (.throwing a)) target := by
  obtain ⟨hgo, hw⟩ := h.throwing a
  refine Steps.head hgo hw ?_
  rw [stepThread_throwing (frames_entered h.top _), (x_catchStep (s := (s.setTop g).pushFrame (.throwing a)) hfind).1]
  obtain ⟨g₀, hg⟩ := Option.isSome_iff_exists.mp h.top
  obtain ⟨r, hr⟩ := State.topJava?_eq_some.mp hg
  have hr' : (s.setVm vm').frames = .java g₀ :: r := hr
  have hsf : ∀ (u : State) (F G : List Frame), ((u.setFrames F).setVm vm').setFrames G = (u.setVm vm').setFrames G := fun u F G => by
    have h1 : (u.setFrames F).setVm vm' = (u.setVm vm').setFrames F := rfl
    rw [h1, State.setFrames_setFrames]
  rw [State.setTop_of_frames _ hr'] at hrest
  rw [hr, List.tail_cons, State.pushFrame, hsf, State.setTop_of_frames _ hr, hsf]
  exact hrest
/-- the method's own table of handlers -/
def xEh (hh : List (Nat × Nat × Nat × Nat)) : Code → State → (Nat → Nat) → (Nat → Prop) → Prop := fun c _ _ _ => c.exceptionTable.toList.map (fun h => (h.startPc, h.endPc, h.handlerPc, h.catchType)) = hh
/-- what catches the exception Z at pc: an entry behind entries of other classes; its handler stores the exception, and answers a number -/
def xHand (own : String) (Ts : List Cond) (cc : ByteArray) (nL pc : Nat) (hh : List (Nat × Nat × Nat × Nat)) (Z : Nat) (v : Int32) : Prop :=
  ∃ (pre : List (Nat × Nat × Nat × Nat)) (q : Nat × Nat × Nat × Nat) (rest : List (Nat × Nat × Nat × Nat)), hh = pre ++ q :: rest ∧ (q.1 ≤ pc ∧ pc < q.2.1) ∧ q.2.2.2 ≠ 0 ∧ Cond.classLink own q.2.2.2 (xEx Z) ∈ Ts ∧ Cond.castable (xEx Z) (xEx Z) ∈ Ts ∧
    (∀ y ∈ pre, (y.1 ≤ pc ∧ pc < y.2.1) ∧ y.2.2.2 ≠ 0 ∧ ∃ Z', Cond.classLink own y.2.2.2 (xEx Z') ∈ Ts ∧ Cond.not (.castable (xEx Z) (xEx Z')) ∈ xNC) ∧
    ∃ z : Int, Int32.ofInt z = v ∧ ((∃ i, i < nL ∧ decode cc q.2.2.1 = .ok (.astore i, 2) ∧ decode cc (q.2.2.1 + 2) = .ok (.iconst z, 1) ∧ decode cc (q.2.2.1 + 3) = .ok (.ireturn, 1)) ∨
      ∃ i : Fin 4, i.val < nL ∧ decode cc q.2.2.1 = .ok (.astore_n i, 1) ∧ decode cc (q.2.2.1 + 1) = .ok (.iconst z, 1) ∧ decode cc (q.2.2.1 + 2) = .ok (.ireturn, 1))
def o_callH (F : xP) (ci np rc rk : Nat) (hs : Nat → Option Int32) : xOp := fun x k Q => match (x.2.2.1.drop np) with
  | .ref a :: _ => match x.2.2.2.1[a]? with
    | some (.inr (cj, _)) => bif Nat.beq cj ci && (Nat.ble (np + 1) x.2.2.1.length && (Nat.ble (xcs (x.2.2.1.drop (np + 1))) 8 && Nat.ble (x.2.2.2.2 + rk) rc)) then
      F (x.2.2.1.take (np + 1)).reverse x.2.2.2.1 (fun r h' n' => match r with
        | .inl none => k (x.1 + 3, x.2.1, x.2.2.1.drop (np + 1), h', x.2.2.2.2 + n')
        | .inl (some v) => k (x.1 + 3, x.2.1, v :: x.2.2.1.drop (np + 1), h', x.2.2.2.2 + n')
        | .inr Z => match hs Z with
          | some v => Q (.inl (some (.int v))) h' (x.2.2.2.2 + n')
          | none => False) else False
    | _ => False
  | _ => False
section XI
variable {k0 : Nat × Nat} {cl : List vw_C} {p : Program} {l : Launch} {e : Env} {R : Room} {s : State} {m : MethodId} {args : Array Value} {below : List Frame} {meth : Method} {c : Code} {T : State} {locs : List Loc} {own : String} {Ts : List Cond} {cc : ByteArray} {nL : Nat} {D : va_G} {cA : Nat → ClassId} {ρ : Nat → Nat} {A : Nat → Prop} {hh : List (Nat × Nat × Nat × Nat)}
/-- from the throw to the handler's answer -/
theorem x_hand (hX : xCx (xEh hh) cl own Ts cc nL (some .int) p l s m args meth c D cA ρ A) {Q : xQ} {pc n : Nat} {h : xH} {ls : Array Slot} {L : List (Nat × Value)} {rest : List Value} {Z : Nat} {v : Int32} (X : Stand p l e R s m args below meth c T locs (k0.1 + n) (k0.2 + 6 * n))
    (hl : lv_has ls nL L) (hP : va_P D cl (xw ρ cA 0 h) T.heap) (hD : va_D A (xw ρ cA 0 h)) (hS : va_S A s.heap T.heap locs) {a : Addr} {cell : Cell} (ha : T.heap[a]? = some cell) (hv : ∀ k, cell.vm ≠ .statics k) (hc1 : s.vm.findClass (xEx Z) = some cell.cls) (hc2 : ∃ k, s.vm.classes[cell.cls]? = some k)
    (hH : xHand own Ts cc nL pc hh Z v) (hQ : Q (.inl (some (.int v))) h n) : ∃ t, Steps p.tables e below ((T.setTop (F0 m pc ls rest)).pushFrame (.throwing a)) t ∧ xMQ k0 cl D cA ρ A Q s below t := by
  obtain ⟨hx, hb, hml, hr, hlk, hown, hts, hK, hA, hex, hlo0, hns, hHs⟩ := hX
  obtain ⟨pre, q, rs, e1, hcov, hq0, hlink, hcast, hpre, z, hz, hdec⟩ := hH
  have hpl : e.platform.magicAccessors = ({} : Platform).magicAccessors := by rw [X.admits.platform]
  have e2 : c.exceptionTable.toList.map (fun h => (h.startPc, h.endPc, h.handlerPc, h.catchType)) = pre ++ q :: rs := hex.trans e1
  obtain ⟨l1, l2, e3, e4, e5⟩ := List.map_eq_append_iff.mp e2
  obtain ⟨x, l3, e6, e7, e8⟩ := List.map_eq_cons_iff.mp e5
  subst e6
  have hx1 : x.startPc = q.1 := by rw [← e7]
  have hx2 : x.endPc = q.2.1 := by rw [← e7]
  have hx3 : x.handlerPc = q.2.2.1 := by rw [← e7]
  have hx4 : x.catchType = q.2.2.2 := by rw [← e7]
  obtain ⟨cT, hcT, hclT⟩ := Cond.classLink_spec hown (by rw [hx4]; exact hts _ hlink : (Cond.classLink own x.catchType (xEx Z)).before args s = true) e.platform hpl
  have ecT : cT = cell.cls := Option.some.inj (hcT.symm.trans hc1)
  subst ecT
  obtain ⟨c3, c4, hc3, hc4, hasg⟩ := Cond.castable_spec (hts _ hcast)
  have ec3 : c3 = cell.cls := Option.some.inj (hc3.symm.trans hc1)
  have ec4 : c4 = cell.cls := Option.some.inj (hc4.symm.trans hc1)
  subst ec3
  rw [ec4] at hasg
  have hcov' : covers x (F0 m pc ls rest).pc = true := by simp [covers, hx1, hx2, hcov]
  obtain ⟨vm', hW', hfind⟩ := x_search (e := e) (s₀ := s) (f := F0 m pc ls rest) (a := a) (cell := cell) hv hc2 x l3 hcov' (by rw [hx4]; exact hq0) (c := cell.cls) hclT hasg l1 ((T.setTop (F0 m pc ls rest)).pushFrame (.throwing a)) X.warmed ha (fun y hy => by
    have hm : (y.startPc, y.endPc, y.handlerPc, y.catchType) ∈ pre := by rw [← e4]; exact List.mem_map_of_mem hy
    obtain ⟨w1, w2, Z', w3, w4⟩ := hpre _ hm
    obtain ⟨c', hc', hcl'⟩ := Cond.classLink_spec hown (hts _ w3) e.platform hpl
    refine ⟨by simp [covers, w1], w2, c', hcl', ?_⟩
    have hno := hHs.1 _ w4
    have hvv := Cond.holds_not_iff.mp hno
    simp only [Cond.value, hc1, hc'] at hvv
    exact Option.some.inj hvv)
  have hF : xFinds e ((T.setTop (F0 m pc ls rest)).pushFrame (.throwing a)) (F0 m pc ls rest) a q.2.2.1 vm' := fun Q E d acts => by
    rw [W.findHandler_eq (meth := meth) (code := c) X.method' X.code, e3, hfind Q E d acts, hx3]
  have X2 := X.noted hW'
  have key : W p l e R s m args below meth c T.heap locs (k0.1 + n) (k0.2 + 6 * n) (xMQ k0 cl D cA ρ A Q s below) (F0 m q.2.2.1 ls [.ref a]) := by
    rcases hdec with ⟨i, hi, d1, d2, d3⟩ | ⟨i, hi, d1, d2, d3⟩
    · refine lv_astore hx hb d1 hl hi rfl (fun ls' _ => ?_)
      refine lv_iconst hx hb d2 hz ?_
      exact W.mono (W.iret (v := v) (free := A) hx hb hr (fun t ht hW => ⟨rfl, ht, hW⟩) hS.2.2 d3 hlk) (fun t ht => xret (v := some (.int v)) hQ hP hD hS ht)
    · refine lv_astore_n hx hb d1 rfl hl hi rfl (fun ls' _ => ?_)
      refine lv_iconst hx hb d2 hz ?_
      exact W.mono (W.iret (v := v) (free := A) hx hb hr (fun t ht hW => ⟨rfl, ht, hW⟩) hS.2.2 d3 hlk) (fun t ht => xret (v := some (.int v)) hQ hP hD hS ht)
  obtain ⟨t, a1, b1⟩ := key (T.setVm vm') rfl X2
  exact ⟨t, x_caught (g := F0 m pc ls rest) X.here hF a1, b1⟩
end XI
section XJ
variable {k0 : Nat × Nat} {cl : List vw_C} {own : String} {Ts : List Cond} {cc : ByteArray} {nL : Nat} {R : Room} {pc : Nat} {hh : List (Nat × Nat × Nat × Nat)}
theorem s_callH {F : xP} {ci np rc rk i : Nat} {hs : Nat → Option Int32} {C : String} {T0 : u_T} {N : Nat} {y : MethodName} {ws ws' : List Cond} {rm : Room} {bytes : ByteArray} {maxL : Nat} {rt : Option FieldType} (hM : xMet cl y ws rm F) (hd : decode cc pc = .ok (.invokevirtual i, 3)) (hw : ws = Cond.code y bytes maxL rt :: ws') (hG : xGood Ts ws) (hc : cl[ci]? = some (C, T0, N))
    (hlink : Cond.methodLink own i y ∈ Ts) (hinst : Cond.instanceMethod y ∈ Ts) (hsel : Cond.selects C y y ∈ Ts) (hini : Cond.initialized y.cls ∈ Ts) (hy : y.cls ≠ "java/lang/invoke/MethodHandle" ∧ y.cls ≠ "java/lang/invoke/VarHandle" ∧ (parseMethodDescriptor y.desc).map (fun d => d.parameters.length) = some np)
    (hrc : k0.1 + rc ≤ R.cells ∧ k0.2 + 6 * rc ≤ R.slots ∧ rm.cells = rk ∧ rm.slots = 6 * rk ∧ rm.frames + 1 ≤ R.frames ∧ 8 + (maxL + 11) + rm.locals ≤ R.locals) (hH : ∀ Z v, hs Z = some v → xHand own Ts cc nL pc hh Z v) : xSd k0 (xEh hh) cl own Ts cc nL (some .int) R (pc, o_callH F ci np rc rk hs) := by
  intro p l e s m args below meth c D cA ρ A X Q J x hpc hJ ho H locs ls hl hP hD hS
  obtain ⟨pc', L, st, h, n⟩ := x
  obtain rfl : pc' = pc := hpc
  dsimp only [o_callH] at ho
  split at ho
  · rename_i a r0 hdr
    split at ho
    · rename_i cj fs he
      obtain ⟨h00, ho1⟩ := bif_t ho
      clear ho
      rw [Bool.and_eq_true, Bool.and_eq_true, Bool.and_eq_true] at h00
      obtain ⟨hcc, h0⟩ := h00
      obtain rfl : cj = ci := Nat.eq_of_beq_eq_true hcc
      have ho := ho1
      clear ho1
      have hdr1 : st.drop (np + 1) = r0 := by
        rw [← List.drop_drop, hdr]; rfl
      have hlt : np < st.length := Nat.le_of_ble_eq_true h0.1
      have hlen : (st.take np).length = np := by rw [List.length_take]; omega
      have htk : (st.take (np + 1)).reverse = .ref a :: (st.take np).reverse := by
        have e1 : st = st.take np ++ .ref a :: r0 := by rw [← hdr, List.take_append_drop]
        have e2 : st.take (np + 1) = st.take np ++ [.ref a] := by
          conv => lhs; rw [e1]
          rw [List.take_append, List.take_of_length_le (by omega), hlen]
          simp
        rw [e2]; simp
      intro T hT S
      subst hT
      have hts := X.2.2.2.2.2.2.1
      have hcw : Cond.code y bytes maxL rt ∈ ws := by rw [hw]; exact List.mem_cons_self
      have hcode := hts _ (hG _ hcw).1
      obtain ⟨mk, methM, hnamed, hmethM, hstM, habM⟩ := Cond.instanceMethod_spec (hts _ hinst)
      obtain ⟨methM', cM, hmethM', hcM, -, hlM, -, -, -, hsigM⟩ := Cond.code_spec hnamed hcode
      cases hmethM.symm.trans hmethM'
      obtain ⟨c2, r2, m2, q1, q2, q3, q4, kP, hkP, hkPi⟩ := Cond.selects_spec (hts _ hsel)
      obtain ⟨cell, hcell, hclB, hoB⟩ : ∃ cell : Cell, T.heap[ρ a]? = some cell ∧ s.vm.findClass C = some cell.cls ∧ cell.vm.isStatics = false := by
        obtain ⟨r, h1, cell, w1, w2, w3, w4⟩ := hP a _ (xw_at he)
        have hr : r = (C, T0, N) := Option.some.inj (h1.symm.trans hc)
        subst hr
        have hk1 := (X.2.2.2.2.2.2.2.1).1 _ _ hc
        exact ⟨cell, w1, by rw [w2]; exact hk1.2.1, by rw [w3]; rfl⟩
      cases hclB.symm.trans q1
      cases (State.methodFound?_of_named hnamed ⟨hy.1, hy.2.1⟩).symm.trans q2
      cases hnamed.symm.trans q3
      have hselP : selectMethod e.platform s.vm cell.cls mk = .method mk := by rw [Launch.admits_selectMethod S.admits]; exact q4
      have hpl : ((st.take np).reverse.map (xv ρ)).length = methM.sig.parameters.length := by
        have h2 := hy.2.2
        rw [hsigM] at h2
        rw [List.length_map, List.length_reverse, hlen]
        exact (Option.some.inj h2).symm
      obtain ⟨vm₁, X₁, hstep₁⟩ := S.invokevirtual X.1 X.2.2.2.2.2.1 (hts _ hlink) hnamed hmethM hstM hkP hkPi ⟨hy.1, hy.2.1⟩ (a := ρ a) (cell := cell) hcell (fun z q => by rw [q] at hoB; cases hoB) hselP hmethM habM hkP hkPi (g := F0 m pc' ls (st.map (xv ρ))) rfl (argsL := (st.take np).reverse.map (xv ρ)) (rest := (st.drop (np + 1)).map (xv ρ)) hpl (by
        show st.map (xv ρ) = _
        rw [← List.map_reverse, List.reverse_reverse, hdr1]
        conv => lhs; rw [← List.take_append_drop np st, hdr]
        rw [List.map_append]; rfl) (by rw [X.2.1]; exact hd)
      rw [htk] at ho
      obtain ⟨t, a1, b1⟩ := x_callG (PT := fun Z h' n' => match hs Z with | some v => Q (.inl (some (.int v))) h' (n + n') | none => False) (T := T.setVm vm₁) X hJ (pc := pc') (ls := ls) (rest := st.drop (np + 1)) (vs := .ref a :: (st.take np).reverse) X₁ hl hP hD hS hd (X₁.named hnamed) hM ⟨methM, cM, by rw [X₁.warmed.alike.method?]; exact hmethM, hcM, hlM⟩ hG hini hrc.1 hrc.2.1 hrc.2.2.1 hrc.2.2.2.1 hrc.2.2.2.2.1 hrc.2.2.2.2.2 (Nat.le_of_ble_eq_true h0.2.1) (Nat.le_of_ble_eq_true h0.2.2) ho (fun Z h' n' T' locs' a cell hq X' hP' hD' hS' ha hv hc1 hc2 => by
        cases hz : hs Z with
        | none => rw [hz] at hq; exact hq.elim
        | some v => rw [hz] at hq; exact x_hand X X' hl hP' hD' hS' ha hv hc1 hc2 (hH Z v hz) hq)
      exact ⟨t, hstep₁ _ fun acts => by rw [doInvoke_state]; exact a1, b1⟩
    · exact ho.elim
  · exact ho.elim
end XJ
theorem xMet.ofW {cl : List vw_C} {y : MethodName} {ws ws' : List Cond} {rm : Room} {cc : ByteArray} {nL : Nat} {ret : Option FieldType} {hh : List (Nat × Nat × Nat × Nat)} {tb : xT} (hy : plainName y.cls = true) (hw : ws = Cond.codeWith y cc nL ret hh :: ws') (hv : ∀ q ∈ tb, xSd (0, 0) (xEh hh) cl y.cls ws cc nL ret rm q) : xMet cl y ws rm (xRun tb nL) := by
  intro l D cA ρ vs h Q sz hlo hF
  refine MetFree.of_bodyS (code := cc) (maxLocals := nL) (ret := ret) hy ?_ ?_
  · intro args s m hh2 hn
    obtain ⟨m', meth, c, h0, h1, h2, h3, h4, -, h5, h6, -⟩ := Cond.codeWith_spec (atoms_spec (ws := ws) hh2 _ (by rw [hw]; exact List.mem_cons_self))
    have : m' = m := Option.some.inj (h0.symm.trans hn)
    subst this
    exact ⟨meth, c, h1, h2, h3, h4, h5, h6⟩
  · intro p e s m args below meth c s₁ B hml hP _
    obtain ⟨rfl, hsz, hP, hK, hD0, hHs⟩ := hP
    subst hsz
    have hh0 : s₁.heap = s.heap := by rw [B.state]; rfl
    have hts := atoms_spec (ws := ws) B.pre
    have hcw : Cond.codeWith y cc nL ret hh ∈ ws := by rw [hw]; exact List.mem_cons_self
    obtain ⟨m', meth', c', h0, h1, h2, -, -, h5, -, -, -⟩ := Cond.codeWith_spec (hts _ hcw)
    have e0 : m' = m := Option.some.inj (h0.symm.trans B.named)
    subst e0
    cases B.method.symm.trans h1
    cases (Stand.of_body B).code.symm.trans h2
    have hX : xCx (xEh hh) cl y.cls ws cc nL ret p l s m' (vs.map (xv ρ)).toArray meth c D cA ρ (xA ρ h.length s.heap.size) :=
      ⟨B.exec, B.bytes, hml, B.returns, B.notSynchronized, findClass_of_methodNamed B.named, hts, hK, fun q hq => Or.inr hq, h5, hlo, x_ns hP, hHs⟩
    have hl := lv_entry (vs.map (xv ρ)) (n := nL) (by rw [xen_len]; exact hF.1)
    have hk := xSd.all (l := l) (e := e) (below := below) (ρ := ρ) hv hX hF.2 s.heap [] _ (by rw [xen_la]; exact hl) hP (xD_A hD0) va_S.rf
    obtain ⟨t, a1, o, b1, b2, b3⟩ := hk s₁ hh0 (Stand.of_body B)
    exact ⟨t, o, by rw [lg_entry_eq]; exact a1, b1, b2, b3⟩
end
section
-- THE LAW's OWN STEPS: the script, the switch, calls with room that is counted
section XJ
variable {k0 : Nat × Nat} {Ex : Code → State → (Nat → Nat) → (Nat → Prop) → Prop} {cl : List vw_C} {own : String} {Ts : List Cond} {cc : ByteArray} {nL : Nat} {ret : Option FieldType} {R : Room} {pc : Nat}
theorem xSd.imp {op op' : xOp} (h : xSd k0 Ex cl own Ts cc nL ret R (pc, op)) (hi : ∀ x J Q, op' x J Q → op x J Q) : xSd k0 Ex cl own Ts cc nL ret R (pc, op') :=
  fun p l e s m args below meth c D cA ρ A X Q J x hpc hJ ho => h p l e s m args below meth c D cA ρ A X Q J x hpc hJ (hi x J Q ho)
theorem s_callSW {hh : List (Nat × Nat × Nat × Nat)} {F : xP} {np rc rk i : Nat} {y : MethodName} {ws ws' : List Cond} {rm : Room} {bytes : ByteArray} {maxL : Nat} {rt : Option FieldType} (hM : xMet cl y ws rm F) (hd : decode cc pc = .ok (.invokestatic i, 3)) (hw : ws = Cond.codeWith y bytes maxL rt hh :: ws') (hG : xGood Ts ws)
    (hlink : Cond.methodLink own i y ∈ Ts) (hstat : Cond.static y ∈ Ts) (hini : Cond.initialized y.cls ∈ Ts) (hy : y.cls ≠ "java/lang/invoke/MethodHandle" ∧ y.cls ≠ "java/lang/invoke/VarHandle" ∧ (parseMethodDescriptor y.desc).map (fun d => d.parameters.length) = some np)
    (hrc : k0.1 + rc ≤ R.cells ∧ k0.2 + 6 * rc ≤ R.slots ∧ rm.cells = rk ∧ rm.slots = 6 * rk ∧ rm.frames + 1 ≤ R.frames ∧ 8 + (maxL + 11) + rm.locals ≤ R.locals) (hex : ∀ c s ρ A, Ex c s ρ A → c.exceptionTable.isEmpty = true) : xSd k0 Ex cl own Ts cc nL ret R (pc, o_call F np rc rk) := by
  intro p l e s m args below meth c D cA ρ A X Q J x hpc hJ ho H locs ls hl hP hD hS
  obtain ⟨pc', L, st, h, n⟩ := x
  obtain rfl : pc' = pc := hpc
  obtain ⟨h0, ho⟩ := bif_t ho
  rw [Bool.and_eq_true, Bool.and_eq_true] at h0
  dsimp only at h0 ho
  have hlen : (st.take np).length = np := by rw [List.length_take]; exact Nat.min_eq_left (Nat.le_of_ble_eq_true h0.1)
  intro T hT S
  subst hT
  have hts := X.2.2.2.2.2.2.1
  have hcw : Cond.codeWith y bytes maxL rt hh ∈ ws := by rw [hw]; exact List.mem_cons_self
  have hcode := hts _ (hG _ hcw).1
  obtain ⟨mk, methM, cM, hnamed, hmethM, hcM, -, hlM, -, -, -, hsigM⟩ := Cond.codeWith_spec hcode
  have hstatic : methM.isStatic = true := Cond.static_spec hnamed hmethM (hts _ hstat)
  obtain ⟨kP, hkP, -⟩ := className_of_methodNamed hnamed
  have hinitP : kP.init = .initialized := Cond.initialized_spec (findClass_of_methodNamed hnamed) hkP (hts _ hini)
  have hpl : ((st.take np).reverse.map (xv ρ)).length = methM.sig.parameters.length := by
    have h2 := hy.2.2
    rw [hsigM] at h2
    rw [List.length_map, List.length_reverse, hlen]
    exact (Option.some.inj h2).symm
  obtain ⟨vm₁, X₁, hstep₁⟩ := S.invokestatic X.1 X.2.2.2.2.2.1 (hts _ hlink) hnamed hmethM hstatic hkP hinitP ⟨hy.1, hy.2.1⟩ (g := F0 m pc' ls (st.map (xv ρ))) rfl (argsL := (st.take np).reverse.map (xv ρ)) (rest := (st.drop np).map (xv ρ)) hpl (by
    show st.map (xv ρ) = _
    rw [← List.map_reverse, ← List.map_append, take_app]) (by rw [X.2.1]; exact hd)
  obtain ⟨t, a1, b1⟩ := x_call (T := T.setVm vm₁) X hJ (pc := pc') (ls := ls) (rest := st.drop np) (vs := (st.take np).reverse) X₁ hl hP hD hS hd (X₁.named hnamed) hM ⟨methM, cM, by rw [X₁.warmed.alike.method?]; exact hmethM, hcM, hlM⟩ hG hini hex hrc.1 hrc.2.1 hrc.2.2.1 hrc.2.2.2.1 hrc.2.2.2.2.1 hrc.2.2.2.2.2 (Nat.le_of_ble_eq_true h0.2.1) (Nat.le_of_ble_eq_true h0.2.2) ho
  exact ⟨t, hstep₁ _ fun acts => by rw [doInvoke_state]; exact a1, b1⟩
def o_callP (F : xP) (np rc rk : Nat) : xOp := fun x k Q => x.2.2.2.2 + rk ≤ rc ∧ (bif Nat.ble np x.2.2.1.length && Nat.ble (xcs (x.2.2.1.drop np)) 8 then
    F (x.2.2.1.take np).reverse x.2.2.2.1 (fun r h' n' => match r with
      | .inl none => k (x.1 + 3, x.2.1, x.2.2.1.drop np, h', x.2.2.2.2 + n')
      | .inl (some v) => k (x.1 + 3, x.2.1, v :: x.2.2.1.drop np, h', x.2.2.2.2 + n')
      | .inr X => Q (.inr X) h' (x.2.2.2.2 + n')) else False)
theorem o_callP_i {F : xP} {np rc rk : Nat} (x : xF) (J : xF → Prop) (Q : xQ) (h : o_callP F np rc rk x J Q) : o_call F np rc rk x J Q := by
  obtain ⟨h1, h2⟩ := h
  obtain ⟨h3, h4⟩ := bif_t h2
  rw [Bool.and_eq_true] at h3
  unfold o_call
  rw [h3.1, h3.2, Nat.ble_eq_true_of_le h1]
  exact h4
def o_callVP (F : xP) (ci np rc rk : Nat) : xOp := fun x k Q => match (x.2.2.1.drop np) with
  | .ref a :: _ => match x.2.2.2.1[a]? with
    | some (.inr (cj, _)) => bif Nat.beq cj ci then o_callP F (np + 1) rc rk x k Q else False
    | _ => False
  | _ => False
theorem o_callVP_i {F : xP} {ci np rc rk : Nat} (x : xF) (J : xF → Prop) (Q : xQ) (h : o_callVP F ci np rc rk x J Q) : o_callV F ci np rc rk x J Q := by
  unfold o_callVP at h
  unfold o_callV
  split at h
  · split at h
    · obtain ⟨h1, h2⟩ := bif_t h
      rename_i a r hd _ cj fs he
      rw [hd]
      simp only []
      rw [he]
      simp only []
      rw [h1]
      exact o_callP_i _ _ _ h2
    · exact h.elim
  · exact h.elim
/-- the law's context: no handlers; the script is the cell b, of the number 99, and not ours to change -/
def xEl (b L : Nat) (xs : Nat → Int32) : Code → State → (Nat → Nat) → (Nat → Prop) → Prop := fun c s ρ A => c.exceptionTable.isEmpty = true ∧ ρ 99 = b ∧ ¬ A b ∧ b < s.heap.size ∧ va_X b L xs s s.heap
theorem xEl_e {b L : Nat} {xs : Nat → Int32} : ∀ c s ρ A, xEl b L xs c s ρ A → c.exceptionTable.isEmpty = true := fun _ _ _ _ h => h.1
def o_sload (L : Nat) (xs : Nat → Int32) : xOp := fun x k _ => match x.2.2.1 with
  | .int i :: .ref a :: r => bif Nat.beq a 99 then vp_in i L ∧ k (x.1 + 1, x.2.1, .int (xs i.toNatClampNeg) :: r, x.2.2.2.1, x.2.2.2.2) else False
  | _ => False
def o_slen (L : Nat) : xOp := fun x k _ => match x.2.2.1 with
  | .ref a :: r => bif Nat.beq a 99 then k (x.1 + 1, x.2.1, .int (Int32.ofNat L) :: r, x.2.2.2.1, x.2.2.2.2) else False
  | _ => False
def o_sw (d : Nat) (ts : List Nat) : xOp := fun x k _ => match x.2.2.1 with
  | .int i :: r => ∃ j : Nat, j < ts.length ∧ i = Int32.ofNat j ∧ k (ts.getD j d, x.2.1, r, x.2.2.2.1, x.2.2.2.2)
  | _ => False
end XJ
section XJ
variable {k0 : Nat × Nat} {b L : Nat} {xs : Nat → Int32} {cl : List vw_C} {own : String} {Ts : List Cond} {cc : ByteArray} {nL : Nat} {ret : Option FieldType} {R : Room} {pc : Nat}
theorem s_sload (hd : decode cc pc = .ok (.iaload, 1)) : xSd k0 (xEl b L xs) cl own Ts cc nL ret R (pc, o_sload L xs) := by
  intro p l e s m args below meth c D cA ρ A X Q J x hpc hJ ho H locs ls hl hP hD hS
  obtain ⟨pc', L, st, h, n⟩ := x
  obtain rfl : pc' = pc := hpc
  dsimp only [o_sload] at ho
  split at ho
  · rename_i i a r
    obtain ⟨h1, h2, h3⟩ := bif_t ho
    obtain rfl : a = 99 := Nat.eq_of_beq_eq_true h1
    obtain ⟨-, e1, e2, e3, e4⟩ := X.2.2.2.2.2.2.2.2.2.1
    show W p l e R s m args below meth c H locs _ _ _ (F0 m pc' ls (.int i :: .ref (ρ 99) :: r.map (xv ρ)))
    rw [e1]
    exact va_sld X.1 X.2.1 e4 e3 e2 hS h2 hd (hJ _ h3 H locs ls hl hP hD hS)
  · exact ho.elim
theorem s_slen (hd : decode cc pc = .ok (.arraylength, 1)) : xSd k0 (xEl b L xs) cl own Ts cc nL ret R (pc, o_slen L) := by
  intro p l e s m args below meth c D cA ρ A X Q J x hpc hJ ho H locs ls hl hP hD hS
  obtain ⟨pc', L, st, h, n⟩ := x
  obtain rfl : pc' = pc := hpc
  dsimp only [o_slen] at ho
  split at ho
  · rename_i a r
    obtain ⟨h1, h3⟩ := bif_t ho
    obtain rfl : a = 99 := Nat.eq_of_beq_eq_true h1
    obtain ⟨-, e1, e2, e3, e4⟩ := X.2.2.2.2.2.2.2.2.2.1
    show W p l e R s m args below meth c H locs _ _ _ (F0 m pc' ls (.ref (ρ 99) :: r.map (xv ρ)))
    rw [e1]
    exact va_slen X.1 X.2.1 e4 e3 e2 hS hd (hJ _ h3 H locs ls hl hP hD hS)
  · exact ho.elim
end XJ
section XJ
variable {k0 : Nat × Nat} {Ex : Code → State → (Nat → Nat) → (Nat → Prop) → Prop} {cl : List vw_C} {own : String} {Ts : List Cond} {cc : ByteArray} {nL : Nat} {ret : Option FieldType} {R : Room} {pc : Nat}
theorem s_sw {d hi : Nat} {df : Int} {ts : List Nat} {offs : Array Int} {len : Nat} (hd : decode cc pc = .ok (.tableswitch df 0 hi offs, len)) (hlen : ts.length = hi + 1) (hsm : hi < 1000) (ho2 : ∀ j : Nat, j < ts.length → ∃ o, offs[j]? = some o ∧ (pc : Int) + o = ((ts.getD j d : Nat) : Int)) : xSd k0 Ex cl own Ts cc nL ret R (pc, o_sw d ts) := by
  intro p l e s m args below meth c D cA ρ A X Q J x hpc hJ ho H locs ls hl hP hD hS
  obtain ⟨pc', L, st, h, n⟩ := x
  obtain rfl : pc' = pc := hpc
  dsimp only [o_sw] at ho
  split at ho
  · rename_i i r
    obtain ⟨j, hj, rfl, h3⟩ := ho
    obtain ⟨o, e1, e2⟩ := ho2 j hj
    have hI : (Int32.ofNat j).toInt = (j : Int) := nI_toInt (n := j) (by omega)
    exact lv_tableIn X.1 X.2.1 hd (by rw [hI]; omega) (by rw [hI]; omega) (by rw [hI]; simpa using e1) e2 (hJ _ h3 H locs ls hl hP hD hS)
  · exact ho.elim
end XJ
end
section
-- ===== PART A: goes FIRST, ahead of the names: the tables' words, and 'selects' of the private methods out of them =====
/-- a private method of a class that the tables say can be made, by its rows of tables_1 -/
def lw_okq (q : MethodName × Nat) : Prop := (q.1.cls ≠ "java/lang/invoke/MethodHandle" ∧ q.1.cls ≠ "java/lang/invoke/VarHandle") ∧ Cond.instantiable q.1.cls q.2 ∈ tables_1 ∧ Cond.privateMethod q.1 ∈ tables_1 ∧ Cond.instanceMethod q.1 ∈ tables_1
theorem lw_p0 : lw_okq (⟨"java/lang/Throwable", "fillInStackTrace", "(I)Ljava/lang/Throwable;"⟩, 6) := ⟨⟨by decide +kernel, by decide +kernel⟩, List.mem_of_getElem? (i := 319) (by decide +kernel), List.mem_of_getElem? (i := 317) (by decide +kernel), List.mem_of_getElem? (i := 318) (by decide +kernel)⟩
theorem lw_p1 : lw_okq (⟨"NameMover", "requireClass", "(I)V"⟩, 6) := ⟨⟨by decide +kernel, by decide +kernel⟩, List.mem_of_getElem? (i := 20) (by decide +kernel), List.mem_of_getElem? (i := 410) (by decide +kernel), List.mem_of_getElem? (i := 411) (by decide +kernel)⟩
theorem lw_p2 : lw_okq (⟨"NameMover$Store", "goesWithPackage", "(IJ)Z"⟩, 11) := ⟨⟨by decide +kernel, by decide +kernel⟩, List.mem_of_getElem? (i := 28) (by decide +kernel), List.mem_of_getElem? (i := 474) (by decide +kernel), List.mem_of_getElem? (i := 475) (by decide +kernel)⟩
theorem lw_p3 : lw_okq (⟨"NameMover", "requireMember", "(II)V"⟩, 6) := ⟨⟨by decide +kernel, by decide +kernel⟩, List.mem_of_getElem? (i := 20) (by decide +kernel), List.mem_of_getElem? (i := 500) (by decide +kernel), List.mem_of_getElem? (i := 501) (by decide +kernel)⟩
theorem lw_p4 : lw_okq (⟨"NameMover$Store", "inOneFamily", "(II)Z"⟩, 11) := ⟨⟨by decide +kernel, by decide +kernel⟩, List.mem_of_getElem? (i := 28) (by decide +kernel), List.mem_of_getElem? (i := 512) (by decide +kernel), List.mem_of_getElem? (i := 513) (by decide +kernel)⟩
theorem lw_p5 : lw_okq (⟨"NameMover$Store", "canOverride", "(I)Z"⟩, 11) := ⟨⟨by decide +kernel, by decide +kernel⟩, List.mem_of_getElem? (i := 28) (by decide +kernel), List.mem_of_getElem? (i := 516) (by decide +kernel), List.mem_of_getElem? (i := 517) (by decide +kernel)⟩
theorem lw_p6 : lw_okq (⟨"NameMover$Store", "familyTop", "(I)I"⟩, 11) := ⟨⟨by decide +kernel, by decide +kernel⟩, List.mem_of_getElem? (i := 28) (by decide +kernel), List.mem_of_getElem? (i := 521) (by decide +kernel), List.mem_of_getElem? (i := 522) (by decide +kernel)⟩
theorem lw_p7 : lw_okq (⟨"NameMover$ClassWriter", "begin", "()V"⟩, 6) := ⟨⟨by decide +kernel, by decide +kernel⟩, List.mem_of_getElem? (i := 104) (by decide +kernel), List.mem_of_getElem? (i := 590) (by decide +kernel), List.mem_of_getElem? (i := 591) (by decide +kernel)⟩
theorem lw_p8 : lw_okq (⟨"NameMover$ClassWriter", "useText", "(J)V"⟩, 6) := ⟨⟨by decide +kernel, by decide +kernel⟩, List.mem_of_getElem? (i := 104) (by decide +kernel), List.mem_of_getElem? (i := 608) (by decide +kernel), List.mem_of_getElem? (i := 609) (by decide +kernel)⟩
theorem lw_p9 : lw_okq (⟨"NameMover$ClassWriter", "openText", "()V"⟩, 6) := ⟨⟨by decide +kernel, by decide +kernel⟩, List.mem_of_getElem? (i := 104) (by decide +kernel), List.mem_of_getElem? (i := 612) (by decide +kernel), List.mem_of_getElem? (i := 613) (by decide +kernel)⟩
theorem lw_p10 : lw_okq (⟨"NameMover$ClassWriter", "appendText", "(J)V"⟩, 6) := ⟨⟨by decide +kernel, by decide +kernel⟩, List.mem_of_getElem? (i := 104) (by decide +kernel), List.mem_of_getElem? (i := 620) (by decide +kernel), List.mem_of_getElem? (i := 621) (by decide +kernel)⟩
theorem lw_p11 : lw_okq (⟨"NameMover$ClassWriter", "closeText", "()V"⟩, 6) := ⟨⟨by decide +kernel, by decide +kernel⟩, List.mem_of_getElem? (i := 104) (by decide +kernel), List.mem_of_getElem? (i := 626) (by decide +kernel), List.mem_of_getElem? (i := 627) (by decide +kernel)⟩
theorem lw_p12 : lw_okq (⟨"NameMover$ClassWriter", "useNumber", "(I)V"⟩, 6) := ⟨⟨by decide +kernel, by decide +kernel⟩, List.mem_of_getElem? (i := 104) (by decide +kernel), List.mem_of_getElem? (i := 646) (by decide +kernel), List.mem_of_getElem? (i := 647) (by decide +kernel)⟩
theorem lw_p13 : lw_okq (⟨"NameMover$ClassWriter", "useDescriptor", "(J)V"⟩, 6) := ⟨⟨by decide +kernel, by decide +kernel⟩, List.mem_of_getElem? (i := 104) (by decide +kernel), List.mem_of_getElem? (i := 651) (by decide +kernel), List.mem_of_getElem? (i := 652) (by decide +kernel)⟩
theorem lw_p14 : lw_okq (⟨"NameMover$ClassWriter", "end", "()V"⟩, 6) := ⟨⟨by decide +kernel, by decide +kernel⟩, List.mem_of_getElem? (i := 104) (by decide +kernel), List.mem_of_getElem? (i := 656) (by decide +kernel), List.mem_of_getElem? (i := 657) (by decide +kernel)⟩
theorem lw_p15 : lw_okq (⟨"NameMover", "requireByte", "(I)V"⟩, 6) := ⟨⟨by decide +kernel, by decide +kernel⟩, List.mem_of_getElem? (i := 20) (by decide +kernel), List.mem_of_getElem? (i := 668) (by decide +kernel), List.mem_of_getElem? (i := 669) (by decide +kernel)⟩
def lw_privs_1 : List (MethodName × Nat) := [(⟨"java/lang/Throwable", "fillInStackTrace", "(I)Ljava/lang/Throwable;"⟩, 6), (⟨"NameMover", "requireClass", "(I)V"⟩, 6), (⟨"NameMover$Store", "goesWithPackage", "(IJ)Z"⟩, 11), (⟨"NameMover", "requireMember", "(II)V"⟩, 6), (⟨"NameMover$Store", "inOneFamily", "(II)Z"⟩, 11), (⟨"NameMover$Store", "canOverride", "(I)Z"⟩, 11), (⟨"NameMover$Store", "familyTop", "(I)I"⟩, 11), (⟨"NameMover$ClassWriter", "begin", "()V"⟩, 6), (⟨"NameMover$ClassWriter", "useText", "(J)V"⟩, 6), (⟨"NameMover$ClassWriter", "openText", "()V"⟩, 6), (⟨"NameMover$ClassWriter", "appendText", "(J)V"⟩, 6), (⟨"NameMover$ClassWriter", "closeText", "()V"⟩, 6), (⟨"NameMover$ClassWriter", "useNumber", "(I)V"⟩, 6), (⟨"NameMover$ClassWriter", "useDescriptor", "(J)V"⟩, 6), (⟨"NameMover$ClassWriter", "end", "()V"⟩, 6), (⟨"NameMover", "requireByte", "(I)V"⟩, 6)]
theorem lw_r1 : ∀ q ∈ lw_privs_1, lw_okq q := List.forall_mem_cons.mpr ⟨lw_p0, List.forall_mem_cons.mpr ⟨lw_p1, List.forall_mem_cons.mpr ⟨lw_p2, List.forall_mem_cons.mpr ⟨lw_p3, List.forall_mem_cons.mpr ⟨lw_p4, List.forall_mem_cons.mpr ⟨lw_p5, List.forall_mem_cons.mpr ⟨lw_p6, List.forall_mem_cons.mpr ⟨lw_p7, List.forall_mem_cons.mpr ⟨lw_p8, List.forall_mem_cons.mpr ⟨lw_p9, List.forall_mem_cons.mpr ⟨lw_p10, List.forall_mem_cons.mpr ⟨lw_p11, List.forall_mem_cons.mpr ⟨lw_p12, List.forall_mem_cons.mpr ⟨lw_p13, List.forall_mem_cons.mpr ⟨lw_p14, List.forall_mem_cons.mpr ⟨lw_p15, fun _ h => absurd h List.not_mem_nil⟩⟩⟩⟩⟩⟩⟩⟩⟩⟩⟩⟩⟩⟩⟩⟩
theorem lw_p16 : lw_okq (⟨"NameMover$ClassReader", "skipPool", "()Z"⟩, 5) := ⟨⟨by decide +kernel, by decide +kernel⟩, List.mem_of_getElem? (i := 129) (by decide +kernel), List.mem_of_getElem? (i := 696) (by decide +kernel), List.mem_of_getElem? (i := 697) (by decide +kernel)⟩
theorem lw_p17 : lw_okq (⟨"NameMover$ClassReader", "nextText", "()I"⟩, 5) := ⟨⟨by decide +kernel, by decide +kernel⟩, List.mem_of_getElem? (i := 129) (by decide +kernel), List.mem_of_getElem? (i := 702) (by decide +kernel), List.mem_of_getElem? (i := 703) (by decide +kernel)⟩
theorem lw_p18 : lw_okq (⟨"NameMover$ClassReader", "nextByte", "()I"⟩, 5) := ⟨⟨by decide +kernel, by decide +kernel⟩, List.mem_of_getElem? (i := 129) (by decide +kernel), List.mem_of_getElem? (i := 706) (by decide +kernel), List.mem_of_getElem? (i := 707) (by decide +kernel)⟩
theorem lw_p19 : lw_okq (⟨"NameMover$ClassReader", "shortText", "(I)J"⟩, 5) := ⟨⟨by decide +kernel, by decide +kernel⟩, List.mem_of_getElem? (i := 129) (by decide +kernel), List.mem_of_getElem? (i := 710) (by decide +kernel), List.mem_of_getElem? (i := 711) (by decide +kernel)⟩
theorem lw_p20 : lw_okq (⟨"NameMover$ClassReader", "textLength", "(I)I"⟩, 5) := ⟨⟨by decide +kernel, by decide +kernel⟩, List.mem_of_getElem? (i := 129) (by decide +kernel), List.mem_of_getElem? (i := 714) (by decide +kernel), List.mem_of_getElem? (i := 715) (by decide +kernel)⟩
theorem lw_p21 : lw_okq (⟨"NameMover$ClassReader", "shortText", "(III)J"⟩, 5) := ⟨⟨by decide +kernel, by decide +kernel⟩, List.mem_of_getElem? (i := 129) (by decide +kernel), List.mem_of_getElem? (i := 718) (by decide +kernel), List.mem_of_getElem? (i := 719) (by decide +kernel)⟩
theorem lw_p22 : lw_okq (⟨"NameMover$ClassReader", "textChar", "(II)I"⟩, 5) := ⟨⟨by decide +kernel, by decide +kernel⟩, List.mem_of_getElem? (i := 129) (by decide +kernel), List.mem_of_getElem? (i := 722) (by decide +kernel), List.mem_of_getElem? (i := 723) (by decide +kernel)⟩
theorem lw_p23 : lw_okq (⟨"NameMover$ClassReader", "nextSuperclass", "()I"⟩, 5) := ⟨⟨by decide +kernel, by decide +kernel⟩, List.mem_of_getElem? (i := 129) (by decide +kernel), List.mem_of_getElem? (i := 729) (by decide +kernel), List.mem_of_getElem? (i := 730) (by decide +kernel)⟩
theorem lw_p24 : lw_okq (⟨"NameMover$ClassReader", "placeMember", "()Z"⟩, 5) := ⟨⟨by decide +kernel, by decide +kernel⟩, List.mem_of_getElem? (i := 129) (by decide +kernel), List.mem_of_getElem? (i := 734) (by decide +kernel), List.mem_of_getElem? (i := 735) (by decide +kernel)⟩
theorem lw_p25 : lw_okq (⟨"NameMover$ClassReader", "compactDescriptor", "(I)J"⟩, 5) := ⟨⟨by decide +kernel, by decide +kernel⟩, List.mem_of_getElem? (i := 129) (by decide +kernel), List.mem_of_getElem? (i := 738) (by decide +kernel), List.mem_of_getElem? (i := 739) (by decide +kernel)⟩
theorem lw_p26 : lw_okq (⟨"NameMover$ClassReader", "semicolon", "(III)I"⟩, 5) := ⟨⟨by decide +kernel, by decide +kernel⟩, List.mem_of_getElem? (i := 129) (by decide +kernel), List.mem_of_getElem? (i := 742) (by decide +kernel), List.mem_of_getElem? (i := 743) (by decide +kernel)⟩
theorem lw_p27 : lw_okq (⟨"NameMover", "isFileOfPlacedClass", "()Z"⟩, 6) := ⟨⟨by decide +kernel, by decide +kernel⟩, List.mem_of_getElem? (i := 20) (by decide +kernel), List.mem_of_getElem? (i := 751) (by decide +kernel), List.mem_of_getElem? (i := 752) (by decide +kernel)⟩
theorem lw_p28 : lw_okq (⟨"NameMoverModel", "isClass", "(I)Z"⟩, 23) := ⟨⟨by decide +kernel, by decide +kernel⟩, List.mem_of_getElem? (i := 761) (by decide +kernel), List.mem_of_getElem? (i := 864) (by decide +kernel), List.mem_of_getElem? (i := 865) (by decide +kernel)⟩
theorem lw_p29 : lw_okq (⟨"NameMoverModel", "moves", "()I"⟩, 23) := ⟨⟨by decide +kernel, by decide +kernel⟩, List.mem_of_getElem? (i := 761) (by decide +kernel), List.mem_of_getElem? (i := 868) (by decide +kernel), List.mem_of_getElem? (i := 869) (by decide +kernel)⟩
theorem lw_p30 : lw_okq (⟨"NameMoverModel", "named", "(J)I"⟩, 23) := ⟨⟨by decide +kernel, by decide +kernel⟩, List.mem_of_getElem? (i := 761) (by decide +kernel), List.mem_of_getElem? (i := 872) (by decide +kernel), List.mem_of_getElem? (i := 873) (by decide +kernel)⟩
theorem lw_p31 : lw_okq (⟨"NameMoverModel", "put", "(JIZ)V"⟩, 23) := ⟨⟨by decide +kernel, by decide +kernel⟩, List.mem_of_getElem? (i := 761) (by decide +kernel), List.mem_of_getElem? (i := 876) (by decide +kernel), List.mem_of_getElem? (i := 877) (by decide +kernel)⟩
def lw_privs_2 : List (MethodName × Nat) := [(⟨"NameMover$ClassReader", "skipPool", "()Z"⟩, 5), (⟨"NameMover$ClassReader", "nextText", "()I"⟩, 5), (⟨"NameMover$ClassReader", "nextByte", "()I"⟩, 5), (⟨"NameMover$ClassReader", "shortText", "(I)J"⟩, 5), (⟨"NameMover$ClassReader", "textLength", "(I)I"⟩, 5), (⟨"NameMover$ClassReader", "shortText", "(III)J"⟩, 5), (⟨"NameMover$ClassReader", "textChar", "(II)I"⟩, 5), (⟨"NameMover$ClassReader", "nextSuperclass", "()I"⟩, 5), (⟨"NameMover$ClassReader", "placeMember", "()Z"⟩, 5), (⟨"NameMover$ClassReader", "compactDescriptor", "(I)J"⟩, 5), (⟨"NameMover$ClassReader", "semicolon", "(III)I"⟩, 5), (⟨"NameMover", "isFileOfPlacedClass", "()Z"⟩, 6), (⟨"NameMoverModel", "isClass", "(I)Z"⟩, 23), (⟨"NameMoverModel", "moves", "()I"⟩, 23), (⟨"NameMoverModel", "named", "(J)I"⟩, 23), (⟨"NameMoverModel", "put", "(JIZ)V"⟩, 23)]
theorem lw_r2 : ∀ q ∈ lw_privs_2, lw_okq q := List.forall_mem_cons.mpr ⟨lw_p16, List.forall_mem_cons.mpr ⟨lw_p17, List.forall_mem_cons.mpr ⟨lw_p18, List.forall_mem_cons.mpr ⟨lw_p19, List.forall_mem_cons.mpr ⟨lw_p20, List.forall_mem_cons.mpr ⟨lw_p21, List.forall_mem_cons.mpr ⟨lw_p22, List.forall_mem_cons.mpr ⟨lw_p23, List.forall_mem_cons.mpr ⟨lw_p24, List.forall_mem_cons.mpr ⟨lw_p25, List.forall_mem_cons.mpr ⟨lw_p26, List.forall_mem_cons.mpr ⟨lw_p27, List.forall_mem_cons.mpr ⟨lw_p28, List.forall_mem_cons.mpr ⟨lw_p29, List.forall_mem_cons.mpr ⟨lw_p30, List.forall_mem_cons.mpr ⟨lw_p31, fun _ h => absurd h List.not_mem_nil⟩⟩⟩⟩⟩⟩⟩⟩⟩⟩⟩⟩⟩⟩⟩⟩
theorem lw_p32 : lw_okq (⟨"NameMoverModel", "isDescriptor", "(JI)Z"⟩, 23) := ⟨⟨by decide +kernel, by decide +kernel⟩, List.mem_of_getElem? (i := 761) (by decide +kernel), List.mem_of_getElem? (i := 884) (by decide +kernel), List.mem_of_getElem? (i := 885) (by decide +kernel)⟩
theorem lw_p33 : lw_okq (⟨"NameMoverModel", "type", "(JI)Z"⟩, 23) := ⟨⟨by decide +kernel, by decide +kernel⟩, List.mem_of_getElem? (i := 761) (by decide +kernel), List.mem_of_getElem? (i := 888) (by decide +kernel), List.mem_of_getElem? (i := 889) (by decide +kernel)⟩
theorem lw_p34 : lw_okq (⟨"NameMoverModel", "has", "(IJJ)I"⟩, 23) := ⟨⟨by decide +kernel, by decide +kernel⟩, List.mem_of_getElem? (i := 761) (by decide +kernel), List.mem_of_getElem? (i := 892) (by decide +kernel), List.mem_of_getElem? (i := 893) (by decide +kernel)⟩
theorem lw_p35 : lw_okq (⟨"NameMoverModel", "putMember", "(IJJZ)V"⟩, 23) := ⟨⟨by decide +kernel, by decide +kernel⟩, List.mem_of_getElem? (i := 761) (by decide +kernel), List.mem_of_getElem? (i := 896) (by decide +kernel), List.mem_of_getElem? (i := 897) (by decide +kernel)⟩
theorem lw_p36 : lw_okq (⟨"NameMoverModel", "isMember", "(II)Z"⟩, 23) := ⟨⟨by decide +kernel, by decide +kernel⟩, List.mem_of_getElem? (i := 761) (by decide +kernel), List.mem_of_getElem? (i := 925) (by decide +kernel), List.mem_of_getElem? (i := 926) (by decide +kernel)⟩
theorem lw_p37 : lw_okq (⟨"NameMoverModel", "family", "(I)I"⟩, 23) := ⟨⟨by decide +kernel, by decide +kernel⟩, List.mem_of_getElem? (i := 761) (by decide +kernel), List.mem_of_getElem? (i := 929) (by decide +kernel), List.mem_of_getElem? (i := 930) (by decide +kernel)⟩
theorem lw_p38 : lw_okq (⟨"NameMoverModel", "override", "(II)Z"⟩, 23) := ⟨⟨by decide +kernel, by decide +kernel⟩, List.mem_of_getElem? (i := 761) (by decide +kernel), List.mem_of_getElem? (i := 933) (by decide +kernel), List.mem_of_getElem? (i := 934) (by decide +kernel)⟩
theorem lw_p39 : lw_okq (⟨"NameMoverModel", "isMethod", "(I)Z"⟩, 23) := ⟨⟨by decide +kernel, by decide +kernel⟩, List.mem_of_getElem? (i := 761) (by decide +kernel), List.mem_of_getElem? (i := 937) (by decide +kernel), List.mem_of_getElem? (i := 938) (by decide +kernel)⟩
theorem lw_p40 : lw_okq (⟨"NameMoverModel", "areRelated", "(II)Z"⟩, 23) := ⟨⟨by decide +kernel, by decide +kernel⟩, List.mem_of_getElem? (i := 761) (by decide +kernel), List.mem_of_getElem? (i := 941) (by decide +kernel), List.mem_of_getElem? (i := 942) (by decide +kernel)⟩
theorem lw_p41 : lw_okq (⟨"NameMoverModel", "isAbove", "(II)Z"⟩, 23) := ⟨⟨by decide +kernel, by decide +kernel⟩, List.mem_of_getElem? (i := 761) (by decide +kernel), List.mem_of_getElem? (i := 945) (by decide +kernel), List.mem_of_getElem? (i := 946) (by decide +kernel)⟩
theorem lw_p42 : lw_okq (⟨"NameMoverModel", "trouble", "()I"⟩, 23) := ⟨⟨by decide +kernel, by decide +kernel⟩, List.mem_of_getElem? (i := 761) (by decide +kernel), List.mem_of_getElem? (i := 953) (by decide +kernel), List.mem_of_getElem? (i := 954) (by decide +kernel)⟩
theorem lw_p43 : lw_okq (⟨"NameMoverModel", "isThere", "(I)Z"⟩, 23) := ⟨⟨by decide +kernel, by decide +kernel⟩, List.mem_of_getElem? (i := 761) (by decide +kernel), List.mem_of_getElem? (i := 957) (by decide +kernel), List.mem_of_getElem? (i := 958) (by decide +kernel)⟩
theorem lw_p44 : lw_okq (⟨"NameMoverModel", "parts", "(II)Z"⟩, 23) := ⟨⟨by decide +kernel, by decide +kernel⟩, List.mem_of_getElem? (i := 761) (by decide +kernel), List.mem_of_getElem? (i := 961) (by decide +kernel), List.mem_of_getElem? (i := 962) (by decide +kernel)⟩
theorem lw_p45 : lw_okq (⟨"NameMoverModel", "meet", "(II)Z"⟩, 23) := ⟨⟨by decide +kernel, by decide +kernel⟩, List.mem_of_getElem? (i := 761) (by decide +kernel), List.mem_of_getElem? (i := 965) (by decide +kernel), List.mem_of_getElem? (i := 966) (by decide +kernel)⟩
theorem lw_p46 : lw_okq (⟨"NameMoverModel", "make", "(I)V"⟩, 23) := ⟨⟨by decide +kernel, by decide +kernel⟩, List.mem_of_getElem? (i := 761) (by decide +kernel), List.mem_of_getElem? (i := 998) (by decide +kernel), List.mem_of_getElem? (i := 999) (by decide +kernel)⟩
theorem lw_p47 : lw_okq (⟨"NameMoverModel", "nameInPool", "(J)I"⟩, 23) := ⟨⟨by decide +kernel, by decide +kernel⟩, List.mem_of_getElem? (i := 761) (by decide +kernel), List.mem_of_getElem? (i := 1002) (by decide +kernel), List.mem_of_getElem? (i := 1003) (by decide +kernel)⟩
def lw_privs_3 : List (MethodName × Nat) := [(⟨"NameMoverModel", "isDescriptor", "(JI)Z"⟩, 23), (⟨"NameMoverModel", "type", "(JI)Z"⟩, 23), (⟨"NameMoverModel", "has", "(IJJ)I"⟩, 23), (⟨"NameMoverModel", "putMember", "(IJJZ)V"⟩, 23), (⟨"NameMoverModel", "isMember", "(II)Z"⟩, 23), (⟨"NameMoverModel", "family", "(I)I"⟩, 23), (⟨"NameMoverModel", "override", "(II)Z"⟩, 23), (⟨"NameMoverModel", "isMethod", "(I)Z"⟩, 23), (⟨"NameMoverModel", "areRelated", "(II)Z"⟩, 23), (⟨"NameMoverModel", "isAbove", "(II)Z"⟩, 23), (⟨"NameMoverModel", "trouble", "()I"⟩, 23), (⟨"NameMoverModel", "isThere", "(I)Z"⟩, 23), (⟨"NameMoverModel", "parts", "(II)Z"⟩, 23), (⟨"NameMoverModel", "meet", "(II)Z"⟩, 23), (⟨"NameMoverModel", "make", "(I)V"⟩, 23), (⟨"NameMoverModel", "nameInPool", "(J)I"⟩, 23)]
theorem lw_r3 : ∀ q ∈ lw_privs_3, lw_okq q := List.forall_mem_cons.mpr ⟨lw_p32, List.forall_mem_cons.mpr ⟨lw_p33, List.forall_mem_cons.mpr ⟨lw_p34, List.forall_mem_cons.mpr ⟨lw_p35, List.forall_mem_cons.mpr ⟨lw_p36, List.forall_mem_cons.mpr ⟨lw_p37, List.forall_mem_cons.mpr ⟨lw_p38, List.forall_mem_cons.mpr ⟨lw_p39, List.forall_mem_cons.mpr ⟨lw_p40, List.forall_mem_cons.mpr ⟨lw_p41, List.forall_mem_cons.mpr ⟨lw_p42, List.forall_mem_cons.mpr ⟨lw_p43, List.forall_mem_cons.mpr ⟨lw_p44, List.forall_mem_cons.mpr ⟨lw_p45, List.forall_mem_cons.mpr ⟨lw_p46, List.forall_mem_cons.mpr ⟨lw_p47, fun _ h => absurd h List.not_mem_nil⟩⟩⟩⟩⟩⟩⟩⟩⟩⟩⟩⟩⟩⟩⟩⟩
theorem lw_p48 : lw_okq (⟨"NameMoverModel", "spell", "(J)V"⟩, 23) := ⟨⟨by decide +kernel, by decide +kernel⟩, List.mem_of_getElem? (i := 761) (by decide +kernel), List.mem_of_getElem? (i := 1006) (by decide +kernel), List.mem_of_getElem? (i := 1007) (by decide +kernel)⟩
theorem lw_p49 : lw_okq (⟨"NameMoverModel", "pooled", "()I"⟩, 23) := ⟨⟨by decide +kernel, by decide +kernel⟩, List.mem_of_getElem? (i := 761) (by decide +kernel), List.mem_of_getElem? (i := 1010) (by decide +kernel), List.mem_of_getElem? (i := 1011) (by decide +kernel)⟩
theorem lw_p50 : lw_okq (⟨"NameMoverModel", "descriptorInPool", "(J)I"⟩, 23) := ⟨⟨by decide +kernel, by decide +kernel⟩, List.mem_of_getElem? (i := 761) (by decide +kernel), List.mem_of_getElem? (i := 1014) (by decide +kernel), List.mem_of_getElem? (i := 1015) (by decide +kernel)⟩
theorem lw_p51 : lw_okq (⟨"NameMoverModel", "emit", "(I)V"⟩, 23) := ⟨⟨by decide +kernel, by decide +kernel⟩, List.mem_of_getElem? (i := 761) (by decide +kernel), List.mem_of_getElem? (i := 1018) (by decide +kernel), List.mem_of_getElem? (i := 1019) (by decide +kernel)⟩
theorem lw_p52 : lw_okq (⟨"NameMoverModel", "readClass", "()Z"⟩, 23) := ⟨⟨by decide +kernel, by decide +kernel⟩, List.mem_of_getElem? (i := 761) (by decide +kernel), List.mem_of_getElem? (i := 1034) (by decide +kernel), List.mem_of_getElem? (i := 1035) (by decide +kernel)⟩
theorem lw_p53 : lw_okq (⟨"NameMoverModel", "readPool", "()Z"⟩, 23) := ⟨⟨by decide +kernel, by decide +kernel⟩, List.mem_of_getElem? (i := 761) (by decide +kernel), List.mem_of_getElem? (i := 1038) (by decide +kernel), List.mem_of_getElem? (i := 1039) (by decide +kernel)⟩
theorem lw_p54 : lw_okq (⟨"NameMoverModel", "next", "()I"⟩, 23) := ⟨⟨by decide +kernel, by decide +kernel⟩, List.mem_of_getElem? (i := 761) (by decide +kernel), List.mem_of_getElem? (i := 1042) (by decide +kernel), List.mem_of_getElem? (i := 1043) (by decide +kernel)⟩
theorem lw_p55 : lw_okq (⟨"NameMoverModel", "textOf", "(I)J"⟩, 23) := ⟨⟨by decide +kernel, by decide +kernel⟩, List.mem_of_getElem? (i := 761) (by decide +kernel), List.mem_of_getElem? (i := 1046) (by decide +kernel), List.mem_of_getElem? (i := 1047) (by decide +kernel)⟩
theorem lw_p56 : lw_okq (⟨"NameMoverModel", "readMembers", "(I)Z"⟩, 23) := ⟨⟨by decide +kernel, by decide +kernel⟩, List.mem_of_getElem? (i := 761) (by decide +kernel), List.mem_of_getElem? (i := 1050) (by decide +kernel), List.mem_of_getElem? (i := 1051) (by decide +kernel)⟩
theorem lw_p57 : lw_okq (⟨"NameMoverModel", "descriptorOf", "(I)J"⟩, 23) := ⟨⟨by decide +kernel, by decide +kernel⟩, List.mem_of_getElem? (i := 761) (by decide +kernel), List.mem_of_getElem? (i := 1054) (by decide +kernel), List.mem_of_getElem? (i := 1055) (by decide +kernel)⟩
theorem lw_p58 : lw_okq (⟨"NameMoverModel", "written", "(II)I"⟩, 23) := ⟨⟨by decide +kernel, by decide +kernel⟩, List.mem_of_getElem? (i := 761) (by decide +kernel), List.mem_of_getElem? (i := 1058) (by decide +kernel), List.mem_of_getElem? (i := 1059) (by decide +kernel)⟩
theorem lw_p59 : lw_okq (⟨"NameMoverModel", "isDescriptorOfFile", "(J)Z"⟩, 23) := ⟨⟨by decide +kernel, by decide +kernel⟩, List.mem_of_getElem? (i := 761) (by decide +kernel), List.mem_of_getElem? (i := 1062) (by decide +kernel), List.mem_of_getElem? (i := 1063) (by decide +kernel)⟩
def lw_privs_4 : List (MethodName × Nat) := [(⟨"NameMoverModel", "spell", "(J)V"⟩, 23), (⟨"NameMoverModel", "pooled", "()I"⟩, 23), (⟨"NameMoverModel", "descriptorInPool", "(J)I"⟩, 23), (⟨"NameMoverModel", "emit", "(I)V"⟩, 23), (⟨"NameMoverModel", "readClass", "()Z"⟩, 23), (⟨"NameMoverModel", "readPool", "()Z"⟩, 23), (⟨"NameMoverModel", "next", "()I"⟩, 23), (⟨"NameMoverModel", "textOf", "(I)J"⟩, 23), (⟨"NameMoverModel", "readMembers", "(I)Z"⟩, 23), (⟨"NameMoverModel", "descriptorOf", "(I)J"⟩, 23), (⟨"NameMoverModel", "written", "(II)I"⟩, 23), (⟨"NameMoverModel", "isDescriptorOfFile", "(J)Z"⟩, 23)]
theorem lw_r4 : ∀ q ∈ lw_privs_4, lw_okq q := List.forall_mem_cons.mpr ⟨lw_p48, List.forall_mem_cons.mpr ⟨lw_p49, List.forall_mem_cons.mpr ⟨lw_p50, List.forall_mem_cons.mpr ⟨lw_p51, List.forall_mem_cons.mpr ⟨lw_p52, List.forall_mem_cons.mpr ⟨lw_p53, List.forall_mem_cons.mpr ⟨lw_p54, List.forall_mem_cons.mpr ⟨lw_p55, List.forall_mem_cons.mpr ⟨lw_p56, List.forall_mem_cons.mpr ⟨lw_p57, List.forall_mem_cons.mpr ⟨lw_p58, List.forall_mem_cons.mpr ⟨lw_p59, fun _ h => absurd h List.not_mem_nil⟩⟩⟩⟩⟩⟩⟩⟩⟩⟩⟩⟩
def lw_privs : List (MethodName × Nat) := lw_privs_1 ++ (lw_privs_2 ++ (lw_privs_3 ++ (lw_privs_4)))
def lw_tbl : List Cond := k2_sels lw_privs ++ tables_1
theorem lw_privs_ok : ∀ q ∈ lw_privs, lw_okq q := by
  show ∀ q ∈ lw_privs_1 ++ (lw_privs_2 ++ (lw_privs_3 ++ (lw_privs_4))), lw_okq q
  exact List.forall_mem_append.mpr ⟨lw_r1, List.forall_mem_append.mpr ⟨lw_r2, List.forall_mem_append.mpr ⟨lw_r3, lw_r4⟩⟩⟩
end
section
def RN : String := "NameMover"
def FN : u_T := fun k => match k with
  | 0 => ("NameMover", "store", "LNameMover$Store;", true)
  | 1 => ("NameMover", "buffer", "LNameMover$ByteRow;", true)
  | 2 => ("NameMover", "trial", "LNameMover$ByteRow;", true)
  | 3 => ("NameMover", "writer", "LNameMover$ClassWriter;", true)
  | 4 => ("NameMover", "trialWriter", "LNameMover$ClassWriter;", true)
  | _ => ("NameMover", "reader", "LNameMover$ClassReader;", true)
def tN : Nat → FieldType := fun k => match k with
  | 0 => .object "NameMover$Store"
  | 1 => .object "NameMover$ByteRow"
  | 2 => .object "NameMover$ByteRow"
  | 3 => .object "NameMover$ClassWriter"
  | 4 => .object "NameMover$ClassWriter"
  | _ => .object "NameMover$ClassReader"
theorem nN : ∀ a, a < 6 → ∀ b, b < 6 → a ≠ b → (FN a).2.1 ≠ (FN b).2.1 := by decide +kernel
theorem tN_ok : ∀ k, k < 6 → parseFieldDescriptor (FN k).2.2.1 = some (tN k) := by decide +kernel
def RS : String := "NameMover$Store"
def FS : u_T := fun k => match k with
  | 0 => ("NameMover$Store", "names", "[J", true)
  | 1 => ("NameMover$Store", "newNames", "[J", true)
  | 2 => ("NameMover$Store", "superclasses", "[I", true)
  | 3 => ("NameMover$Store", "libraries", "[Z", true)
  | 4 => ("NameMover$Store", "memberCounts", "[I", true)
  | 5 => ("NameMover$Store", "ancestors", "[I", true)
  | 6 => ("NameMover$Store", "memberNames", "[J", true)
  | 7 => ("NameMover$Store", "memberNewNames", "[J", true)
  | 8 => ("NameMover$Store", "descriptors", "[J", true)
  | 9 => ("NameMover$Store", "fixed", "[Z", true)
  | _ => ("NameMover$Store", "count", "I", false)
def tS : Nat → FieldType := fun k => match k with
  | 0 => .array .long
  | 1 => .array .long
  | 2 => .array .int
  | 3 => .array .boolean
  | 4 => .array .int
  | 5 => .array .int
  | 6 => .array .long
  | 7 => .array .long
  | 8 => .array .long
  | 9 => .array .boolean
  | _ => .int
theorem nS : ∀ a, a < 11 → ∀ b, b < 11 → a ≠ b → (FS a).2.1 ≠ (FS b).2.1 := by decide +kernel
theorem tS_ok : ∀ k, k < 11 → parseFieldDescriptor (FS k).2.2.1 = some (tS k) := by decide +kernel
def RB : String := "NameMover$ByteRow"
def FB : u_T := fun k => match k with
  | 0 => ("NameMover$ByteRow", "bytes", "[I", true)
  | _ => ("NameMover$ByteRow", "length", "I", false)
def tB : Nat → FieldType := fun k => match k with
  | 0 => .array .int
  | _ => .int
theorem nB : ∀ a, a < 2 → ∀ b, b < 2 → a ≠ b → (FB a).2.1 ≠ (FB b).2.1 := by decide +kernel
theorem tB_ok : ∀ k, k < 2 → parseFieldDescriptor (FB k).2.2.1 = some (tB k) := by decide +kernel
def RW : String := "NameMover$ClassWriter"
def FW : u_T := fun k => match k with
  | 0 => ("NameMover$ClassWriter", "store", "LNameMover$Store;", true)
  | 1 => ("NameMover$ClassWriter", "row", "LNameMover$ByteRow;", true)
  | 2 => ("NameMover$ClassWriter", "behindPool", "[I", true)
  | 3 => ("NameMover$ClassWriter", "waiting", "I", false)
  | 4 => ("NameMover$ClassWriter", "starts", "[I", true)
  | _ => ("NameMover$ClassWriter", "texts", "I", false)
def tW : Nat → FieldType := fun k => match k with
  | 0 => .object "NameMover$Store"
  | 1 => .object "NameMover$ByteRow"
  | 2 => .array .int
  | 3 => .int
  | 4 => .array .int
  | _ => .int
theorem nW : ∀ a, a < 6 → ∀ b, b < 6 → a ≠ b → (FW a).2.1 ≠ (FW b).2.1 := by decide +kernel
theorem tW_ok : ∀ k, k < 6 → parseFieldDescriptor (FW k).2.2.1 = some (tW k) := by decide +kernel
def RR : String := "NameMover$ClassReader"
def FR : u_T := fun k => match k with
  | 0 => ("NameMover$ClassReader", "store", "LNameMover$Store;", true)
  | 1 => ("NameMover$ClassReader", "row", "LNameMover$ByteRow;", true)
  | 2 => ("NameMover$ClassReader", "starts", "[I", true)
  | 3 => ("NameMover$ClassReader", "texts", "I", false)
  | _ => ("NameMover$ClassReader", "at", "I", false)
def tR : Nat → FieldType := fun k => match k with
  | 0 => .object "NameMover$Store"
  | 1 => .object "NameMover$ByteRow"
  | 2 => .array .int
  | 3 => .int
  | _ => .int
theorem nR : ∀ a, a < 5 → ∀ b, b < 5 → a ≠ b → (FR a).2.1 ≠ (FR b).2.1 := by decide +kernel
theorem tR_ok : ∀ k, k < 5 → parseFieldDescriptor (FR k).2.2.1 = some (tR k) := by decide +kernel
def RM : String := "NameMoverModel"
def FM : u_T := fun k => match k with
  | 0 => ("NameMoverModel", "thrown", "I", false)
  | 1 => ("NameMoverModel", "count", "I", false)
  | 2 => ("NameMoverModel", "names", "[J", true)
  | 3 => ("NameMoverModel", "fresh", "[J", true)
  | 4 => ("NameMoverModel", "above", "[I", true)
  | 5 => ("NameMoverModel", "library", "[Z", true)
  | 6 => ("NameMoverModel", "members", "[I", true)
  | 7 => ("NameMoverModel", "memberNames", "[J", true)
  | 8 => ("NameMoverModel", "memberFresh", "[J", true)
  | 9 => ("NameMoverModel", "descriptors", "[J", true)
  | 10 => ("NameMoverModel", "fixed", "[Z", true)
  | 11 => ("NameMoverModel", "marked", "[Z", true)
  | 12 => ("NameMoverModel", "buffer", "[I", true)
  | 13 => ("NameMoverModel", "size", "I", false)
  | 14 => ("NameMoverModel", "made", "[I", true)
  | 15 => ("NameMoverModel", "madeSize", "I", false)
  | 16 => ("NameMoverModel", "pool", "I", false)
  | 17 => ("NameMoverModel", "poolChars", "[I", true)
  | 18 => ("NameMoverModel", "poolSize", "[I", true)
  | 19 => ("NameMoverModel", "line", "[I", true)
  | 20 => ("NameMoverModel", "lineSize", "I", false)
  | 21 => ("NameMoverModel", "used", "[I", true)
  | _ => ("NameMoverModel", "at", "I", false)
def tM : Nat → FieldType := fun k => match k with
  | 0 => .int
  | 1 => .int
  | 2 => .array .long
  | 3 => .array .long
  | 4 => .array .int
  | 5 => .array .boolean
  | 6 => .array .int
  | 7 => .array .long
  | 8 => .array .long
  | 9 => .array .long
  | 10 => .array .boolean
  | 11 => .array .boolean
  | 12 => .array .int
  | 13 => .int
  | 14 => .array .int
  | 15 => .int
  | 16 => .int
  | 17 => .array .int
  | 18 => .array .int
  | 19 => .array .int
  | 20 => .int
  | 21 => .array .int
  | _ => .int
theorem nM : ∀ a, a < 23 → ∀ b, b < 23 → a ≠ b → (FM a).2.1 ≠ (FM b).2.1 := by decide +kernel
theorem tM_ok : ∀ k, k < 23 → parseFieldDescriptor (FM k).2.2.1 = some (tM k) := by decide +kernel
abbrev xCl : List vw_C := [(RN, FN, 6), (RS, FS, 11), (RB, FB, 2), (RW, FW, 6), (RR, FR, 5), (RM, FM, 23)]
def xgb (w : Cond) : Bool := goodWord w || xnw w
theorem xgb_gw {w : Cond} (h : xgb w = true) : xgw w := by
  unfold xgb at h
  rw [Bool.or_eq_true] at h
  rcases h with h | h
  · exact Or.inl (good_of_word h)
  · exact Or.inr h
/-- the words that stay true: every method's words -/
def xtt : List Cond := lw_tbl.filter xgb
theorem xtt_in {w : Cond} (h : w ∈ lw_tbl) (hb : xgb w = true) : w ∈ xtt := List.mem_filter.mpr ⟨h, hb⟩
theorem xtt_t {w : Cond} {i : Nat} (h : tables_1[i]? = some w) (hb : xgb w = true) : w ∈ xtt := xtt_in (List.mem_append_right _ (List.mem_of_getElem? h)) hb
theorem xtt_s {w : Cond} {i : Nat} (h : (k2_sels lw_privs)[i]? = some w) (hb : xgb w = true) : w ∈ xtt := xtt_in (List.mem_append_left _ (List.mem_of_getElem? h)) hb
theorem xtt_good {c c' : Cond} (hc : c' ∈ xtt) : xGood (c :: xtt) (c' :: xtt) := fun w hw => by
  have h : w ∈ xtt := by
    rcases List.mem_cons.mp hw with rfl | h
    · exact hc
    · exact h
  exact ⟨List.mem_cons_of_mem _ h, xgb_gw (List.mem_filter.mp h).2⟩
theorem tc {c w : Cond} (h : w ∈ xtt) : w ∈ c :: xtt := List.mem_cons_of_mem _ h
end
section
theorem ts_1 : (Cond.selects "NameMover" ⟨"NameMover", "requireClass", "(I)V"⟩ ⟨"NameMover", "requireClass", "(I)V"⟩) ∈ xtt := xtt_s (i := 1) (by decide +kernel) (by decide +kernel)
theorem ts_2 : (Cond.selects "NameMover$Store" ⟨"NameMover$Store", "goesWithPackage", "(IJ)Z"⟩ ⟨"NameMover$Store", "goesWithPackage", "(IJ)Z"⟩) ∈ xtt := xtt_s (i := 2) (by decide +kernel) (by decide +kernel)
theorem ts_3 : (Cond.selects "NameMover" ⟨"NameMover", "requireMember", "(II)V"⟩ ⟨"NameMover", "requireMember", "(II)V"⟩) ∈ xtt := xtt_s (i := 3) (by decide +kernel) (by decide +kernel)
theorem ts_4 : (Cond.selects "NameMover$Store" ⟨"NameMover$Store", "inOneFamily", "(II)Z"⟩ ⟨"NameMover$Store", "inOneFamily", "(II)Z"⟩) ∈ xtt := xtt_s (i := 4) (by decide +kernel) (by decide +kernel)
theorem ts_5 : (Cond.selects "NameMover$Store" ⟨"NameMover$Store", "canOverride", "(I)Z"⟩ ⟨"NameMover$Store", "canOverride", "(I)Z"⟩) ∈ xtt := xtt_s (i := 5) (by decide +kernel) (by decide +kernel)
theorem ts_6 : (Cond.selects "NameMover$Store" ⟨"NameMover$Store", "familyTop", "(I)I"⟩ ⟨"NameMover$Store", "familyTop", "(I)I"⟩) ∈ xtt := xtt_s (i := 6) (by decide +kernel) (by decide +kernel)
theorem ts_7 : (Cond.selects "NameMover$ClassWriter" ⟨"NameMover$ClassWriter", "begin", "()V"⟩ ⟨"NameMover$ClassWriter", "begin", "()V"⟩) ∈ xtt := xtt_s (i := 7) (by decide +kernel) (by decide +kernel)
theorem ts_8 : (Cond.selects "NameMover$ClassWriter" ⟨"NameMover$ClassWriter", "useText", "(J)V"⟩ ⟨"NameMover$ClassWriter", "useText", "(J)V"⟩) ∈ xtt := xtt_s (i := 8) (by decide +kernel) (by decide +kernel)
theorem ts_9 : (Cond.selects "NameMover$ClassWriter" ⟨"NameMover$ClassWriter", "openText", "()V"⟩ ⟨"NameMover$ClassWriter", "openText", "()V"⟩) ∈ xtt := xtt_s (i := 9) (by decide +kernel) (by decide +kernel)
theorem ts_10 : (Cond.selects "NameMover$ClassWriter" ⟨"NameMover$ClassWriter", "appendText", "(J)V"⟩ ⟨"NameMover$ClassWriter", "appendText", "(J)V"⟩) ∈ xtt := xtt_s (i := 10) (by decide +kernel) (by decide +kernel)
theorem ts_11 : (Cond.selects "NameMover$ClassWriter" ⟨"NameMover$ClassWriter", "closeText", "()V"⟩ ⟨"NameMover$ClassWriter", "closeText", "()V"⟩) ∈ xtt := xtt_s (i := 11) (by decide +kernel) (by decide +kernel)
theorem ts_12 : (Cond.selects "NameMover$ClassWriter" ⟨"NameMover$ClassWriter", "useNumber", "(I)V"⟩ ⟨"NameMover$ClassWriter", "useNumber", "(I)V"⟩) ∈ xtt := xtt_s (i := 12) (by decide +kernel) (by decide +kernel)
theorem ts_13 : (Cond.selects "NameMover$ClassWriter" ⟨"NameMover$ClassWriter", "useDescriptor", "(J)V"⟩ ⟨"NameMover$ClassWriter", "useDescriptor", "(J)V"⟩) ∈ xtt := xtt_s (i := 13) (by decide +kernel) (by decide +kernel)
theorem ts_14 : (Cond.selects "NameMover$ClassWriter" ⟨"NameMover$ClassWriter", "end", "()V"⟩ ⟨"NameMover$ClassWriter", "end", "()V"⟩) ∈ xtt := xtt_s (i := 14) (by decide +kernel) (by decide +kernel)
theorem ts_15 : (Cond.selects "NameMover" ⟨"NameMover", "requireByte", "(I)V"⟩ ⟨"NameMover", "requireByte", "(I)V"⟩) ∈ xtt := xtt_s (i := 15) (by decide +kernel) (by decide +kernel)
theorem ts_16 : (Cond.selects "NameMover$ClassReader" ⟨"NameMover$ClassReader", "skipPool", "()Z"⟩ ⟨"NameMover$ClassReader", "skipPool", "()Z"⟩) ∈ xtt := xtt_s (i := 16) (by decide +kernel) (by decide +kernel)
theorem ts_17 : (Cond.selects "NameMover$ClassReader" ⟨"NameMover$ClassReader", "nextText", "()I"⟩ ⟨"NameMover$ClassReader", "nextText", "()I"⟩) ∈ xtt := xtt_s (i := 17) (by decide +kernel) (by decide +kernel)
theorem ts_18 : (Cond.selects "NameMover$ClassReader" ⟨"NameMover$ClassReader", "nextByte", "()I"⟩ ⟨"NameMover$ClassReader", "nextByte", "()I"⟩) ∈ xtt := xtt_s (i := 18) (by decide +kernel) (by decide +kernel)
theorem ts_19 : (Cond.selects "NameMover$ClassReader" ⟨"NameMover$ClassReader", "shortText", "(I)J"⟩ ⟨"NameMover$ClassReader", "shortText", "(I)J"⟩) ∈ xtt := xtt_s (i := 19) (by decide +kernel) (by decide +kernel)
theorem ts_20 : (Cond.selects "NameMover$ClassReader" ⟨"NameMover$ClassReader", "textLength", "(I)I"⟩ ⟨"NameMover$ClassReader", "textLength", "(I)I"⟩) ∈ xtt := xtt_s (i := 20) (by decide +kernel) (by decide +kernel)
theorem ts_21 : (Cond.selects "NameMover$ClassReader" ⟨"NameMover$ClassReader", "shortText", "(III)J"⟩ ⟨"NameMover$ClassReader", "shortText", "(III)J"⟩) ∈ xtt := xtt_s (i := 21) (by decide +kernel) (by decide +kernel)
theorem ts_22 : (Cond.selects "NameMover$ClassReader" ⟨"NameMover$ClassReader", "textChar", "(II)I"⟩ ⟨"NameMover$ClassReader", "textChar", "(II)I"⟩) ∈ xtt := xtt_s (i := 22) (by decide +kernel) (by decide +kernel)
theorem ts_23 : (Cond.selects "NameMover$ClassReader" ⟨"NameMover$ClassReader", "nextSuperclass", "()I"⟩ ⟨"NameMover$ClassReader", "nextSuperclass", "()I"⟩) ∈ xtt := xtt_s (i := 23) (by decide +kernel) (by decide +kernel)
theorem ts_24 : (Cond.selects "NameMover$ClassReader" ⟨"NameMover$ClassReader", "placeMember", "()Z"⟩ ⟨"NameMover$ClassReader", "placeMember", "()Z"⟩) ∈ xtt := xtt_s (i := 24) (by decide +kernel) (by decide +kernel)
theorem ts_25 : (Cond.selects "NameMover$ClassReader" ⟨"NameMover$ClassReader", "compactDescriptor", "(I)J"⟩ ⟨"NameMover$ClassReader", "compactDescriptor", "(I)J"⟩) ∈ xtt := xtt_s (i := 25) (by decide +kernel) (by decide +kernel)
theorem ts_26 : (Cond.selects "NameMover$ClassReader" ⟨"NameMover$ClassReader", "semicolon", "(III)I"⟩ ⟨"NameMover$ClassReader", "semicolon", "(III)I"⟩) ∈ xtt := xtt_s (i := 26) (by decide +kernel) (by decide +kernel)
theorem ts_27 : (Cond.selects "NameMover" ⟨"NameMover", "isFileOfPlacedClass", "()Z"⟩ ⟨"NameMover", "isFileOfPlacedClass", "()Z"⟩) ∈ xtt := xtt_s (i := 27) (by decide +kernel) (by decide +kernel)
theorem ts_28 : (Cond.selects "NameMoverModel" ⟨"NameMoverModel", "isClass", "(I)Z"⟩ ⟨"NameMoverModel", "isClass", "(I)Z"⟩) ∈ xtt := xtt_s (i := 28) (by decide +kernel) (by decide +kernel)
theorem ts_29 : (Cond.selects "NameMoverModel" ⟨"NameMoverModel", "moves", "()I"⟩ ⟨"NameMoverModel", "moves", "()I"⟩) ∈ xtt := xtt_s (i := 29) (by decide +kernel) (by decide +kernel)
theorem ts_30 : (Cond.selects "NameMoverModel" ⟨"NameMoverModel", "named", "(J)I"⟩ ⟨"NameMoverModel", "named", "(J)I"⟩) ∈ xtt := xtt_s (i := 30) (by decide +kernel) (by decide +kernel)
theorem ts_31 : (Cond.selects "NameMoverModel" ⟨"NameMoverModel", "put", "(JIZ)V"⟩ ⟨"NameMoverModel", "put", "(JIZ)V"⟩) ∈ xtt := xtt_s (i := 31) (by decide +kernel) (by decide +kernel)
theorem ts_32 : (Cond.selects "NameMoverModel" ⟨"NameMoverModel", "isDescriptor", "(JI)Z"⟩ ⟨"NameMoverModel", "isDescriptor", "(JI)Z"⟩) ∈ xtt := xtt_s (i := 32) (by decide +kernel) (by decide +kernel)
theorem ts_33 : (Cond.selects "NameMoverModel" ⟨"NameMoverModel", "type", "(JI)Z"⟩ ⟨"NameMoverModel", "type", "(JI)Z"⟩) ∈ xtt := xtt_s (i := 33) (by decide +kernel) (by decide +kernel)
theorem ts_34 : (Cond.selects "NameMoverModel" ⟨"NameMoverModel", "has", "(IJJ)I"⟩ ⟨"NameMoverModel", "has", "(IJJ)I"⟩) ∈ xtt := xtt_s (i := 34) (by decide +kernel) (by decide +kernel)
theorem ts_35 : (Cond.selects "NameMoverModel" ⟨"NameMoverModel", "putMember", "(IJJZ)V"⟩ ⟨"NameMoverModel", "putMember", "(IJJZ)V"⟩) ∈ xtt := xtt_s (i := 35) (by decide +kernel) (by decide +kernel)
theorem ts_36 : (Cond.selects "NameMoverModel" ⟨"NameMoverModel", "isMember", "(II)Z"⟩ ⟨"NameMoverModel", "isMember", "(II)Z"⟩) ∈ xtt := xtt_s (i := 36) (by decide +kernel) (by decide +kernel)
theorem ts_37 : (Cond.selects "NameMoverModel" ⟨"NameMoverModel", "family", "(I)I"⟩ ⟨"NameMoverModel", "family", "(I)I"⟩) ∈ xtt := xtt_s (i := 37) (by decide +kernel) (by decide +kernel)
theorem ts_38 : (Cond.selects "NameMoverModel" ⟨"NameMoverModel", "override", "(II)Z"⟩ ⟨"NameMoverModel", "override", "(II)Z"⟩) ∈ xtt := xtt_s (i := 38) (by decide +kernel) (by decide +kernel)
theorem ts_39 : (Cond.selects "NameMoverModel" ⟨"NameMoverModel", "isMethod", "(I)Z"⟩ ⟨"NameMoverModel", "isMethod", "(I)Z"⟩) ∈ xtt := xtt_s (i := 39) (by decide +kernel) (by decide +kernel)
theorem ts_40 : (Cond.selects "NameMoverModel" ⟨"NameMoverModel", "areRelated", "(II)Z"⟩ ⟨"NameMoverModel", "areRelated", "(II)Z"⟩) ∈ xtt := xtt_s (i := 40) (by decide +kernel) (by decide +kernel)
theorem ts_41 : (Cond.selects "NameMoverModel" ⟨"NameMoverModel", "isAbove", "(II)Z"⟩ ⟨"NameMoverModel", "isAbove", "(II)Z"⟩) ∈ xtt := xtt_s (i := 41) (by decide +kernel) (by decide +kernel)
theorem ts_42 : (Cond.selects "NameMoverModel" ⟨"NameMoverModel", "trouble", "()I"⟩ ⟨"NameMoverModel", "trouble", "()I"⟩) ∈ xtt := xtt_s (i := 42) (by decide +kernel) (by decide +kernel)
theorem ts_43 : (Cond.selects "NameMoverModel" ⟨"NameMoverModel", "isThere", "(I)Z"⟩ ⟨"NameMoverModel", "isThere", "(I)Z"⟩) ∈ xtt := xtt_s (i := 43) (by decide +kernel) (by decide +kernel)
theorem ts_44 : (Cond.selects "NameMoverModel" ⟨"NameMoverModel", "parts", "(II)Z"⟩ ⟨"NameMoverModel", "parts", "(II)Z"⟩) ∈ xtt := xtt_s (i := 44) (by decide +kernel) (by decide +kernel)
theorem ts_45 : (Cond.selects "NameMoverModel" ⟨"NameMoverModel", "meet", "(II)Z"⟩ ⟨"NameMoverModel", "meet", "(II)Z"⟩) ∈ xtt := xtt_s (i := 45) (by decide +kernel) (by decide +kernel)
theorem ts_46 : (Cond.selects "NameMoverModel" ⟨"NameMoverModel", "make", "(I)V"⟩ ⟨"NameMoverModel", "make", "(I)V"⟩) ∈ xtt := xtt_s (i := 46) (by decide +kernel) (by decide +kernel)
theorem ts_47 : (Cond.selects "NameMoverModel" ⟨"NameMoverModel", "nameInPool", "(J)I"⟩ ⟨"NameMoverModel", "nameInPool", "(J)I"⟩) ∈ xtt := xtt_s (i := 47) (by decide +kernel) (by decide +kernel)
theorem ts_48 : (Cond.selects "NameMoverModel" ⟨"NameMoverModel", "spell", "(J)V"⟩ ⟨"NameMoverModel", "spell", "(J)V"⟩) ∈ xtt := xtt_s (i := 48) (by decide +kernel) (by decide +kernel)
theorem ts_49 : (Cond.selects "NameMoverModel" ⟨"NameMoverModel", "pooled", "()I"⟩ ⟨"NameMoverModel", "pooled", "()I"⟩) ∈ xtt := xtt_s (i := 49) (by decide +kernel) (by decide +kernel)
theorem ts_50 : (Cond.selects "NameMoverModel" ⟨"NameMoverModel", "descriptorInPool", "(J)I"⟩ ⟨"NameMoverModel", "descriptorInPool", "(J)I"⟩) ∈ xtt := xtt_s (i := 50) (by decide +kernel) (by decide +kernel)
theorem ts_51 : (Cond.selects "NameMoverModel" ⟨"NameMoverModel", "emit", "(I)V"⟩ ⟨"NameMoverModel", "emit", "(I)V"⟩) ∈ xtt := xtt_s (i := 51) (by decide +kernel) (by decide +kernel)
theorem ts_52 : (Cond.selects "NameMoverModel" ⟨"NameMoverModel", "readClass", "()Z"⟩ ⟨"NameMoverModel", "readClass", "()Z"⟩) ∈ xtt := xtt_s (i := 52) (by decide +kernel) (by decide +kernel)
theorem ts_53 : (Cond.selects "NameMoverModel" ⟨"NameMoverModel", "readPool", "()Z"⟩ ⟨"NameMoverModel", "readPool", "()Z"⟩) ∈ xtt := xtt_s (i := 53) (by decide +kernel) (by decide +kernel)
theorem ts_54 : (Cond.selects "NameMoverModel" ⟨"NameMoverModel", "next", "()I"⟩ ⟨"NameMoverModel", "next", "()I"⟩) ∈ xtt := xtt_s (i := 54) (by decide +kernel) (by decide +kernel)
theorem ts_55 : (Cond.selects "NameMoverModel" ⟨"NameMoverModel", "textOf", "(I)J"⟩ ⟨"NameMoverModel", "textOf", "(I)J"⟩) ∈ xtt := xtt_s (i := 55) (by decide +kernel) (by decide +kernel)
theorem ts_56 : (Cond.selects "NameMoverModel" ⟨"NameMoverModel", "readMembers", "(I)Z"⟩ ⟨"NameMoverModel", "readMembers", "(I)Z"⟩) ∈ xtt := xtt_s (i := 56) (by decide +kernel) (by decide +kernel)
theorem ts_57 : (Cond.selects "NameMoverModel" ⟨"NameMoverModel", "descriptorOf", "(I)J"⟩ ⟨"NameMoverModel", "descriptorOf", "(I)J"⟩) ∈ xtt := xtt_s (i := 57) (by decide +kernel) (by decide +kernel)
theorem ts_58 : (Cond.selects "NameMoverModel" ⟨"NameMoverModel", "written", "(II)I"⟩ ⟨"NameMoverModel", "written", "(II)I"⟩) ∈ xtt := xtt_s (i := 58) (by decide +kernel) (by decide +kernel)
theorem ts_59 : (Cond.selects "NameMoverModel" ⟨"NameMoverModel", "isDescriptorOfFile", "(J)Z"⟩ ⟨"NameMoverModel", "isDescriptorOfFile", "(J)Z"⟩) ∈ xtt := xtt_s (i := 59) (by decide +kernel) (by decide +kernel)
theorem tw_0 : (Cond.initialized "NameMoverLaw") ∈ xtt := xtt_t (i := 0) (by decide +kernel) (by decide +kernel)
theorem tw_1 : (Cond.initialized "NameMover") ∈ xtt := xtt_t (i := 1) (by decide +kernel) (by decide +kernel)
theorem tw_2 : (Cond.initialized "NameMover$Store") ∈ xtt := xtt_t (i := 2) (by decide +kernel) (by decide +kernel)
theorem tw_3 : (Cond.initialized "NameMover$ByteRow") ∈ xtt := xtt_t (i := 3) (by decide +kernel) (by decide +kernel)
theorem tw_4 : (Cond.initialized "NameMover$ClassWriter") ∈ xtt := xtt_t (i := 4) (by decide +kernel) (by decide +kernel)
theorem tw_5 : (Cond.initialized "NameMover$ClassReader") ∈ xtt := xtt_t (i := 5) (by decide +kernel) (by decide +kernel)
theorem tw_6 : (Cond.initialized "NameMoverModel") ∈ xtt := xtt_t (i := 6) (by decide +kernel) (by decide +kernel)
theorem tw_7 : (Cond.initialized "NameMover$Text") ∈ xtt := xtt_t (i := 7) (by decide +kernel) (by decide +kernel)
theorem tw_8 : (Cond.initialized "java/lang/Throwable") ∈ xtt := xtt_t (i := 8) (by decide +kernel) (by decide +kernel)
theorem tw_11 : (Cond.initialized "java/lang/IllegalArgumentException") ∈ xtt := xtt_t (i := 11) (by decide +kernel) (by decide +kernel)
theorem tw_12 : (Cond.initialized "java/lang/IndexOutOfBoundsException") ∈ xtt := xtt_t (i := 12) (by decide +kernel) (by decide +kernel)
theorem tw_13 : (Cond.initialized "java/lang/IllegalStateException") ∈ xtt := xtt_t (i := 13) (by decide +kernel) (by decide +kernel)
theorem tw_14 : (Cond.initialized "NameMover$Descriptor") ∈ xtt := xtt_t (i := 14) (by decide +kernel) (by decide +kernel)
theorem tw_15 : (Cond.initialized "NameMover$Problems") ∈ xtt := xtt_t (i := 15) (by decide +kernel) (by decide +kernel)
theorem tw_16 : (Cond.initialized "java/lang/System") ∈ xtt := xtt_t (i := 16) (by decide +kernel) (by decide +kernel)
theorem tw_17 : (Cond.initialized "java/util/NoSuchElementException") ∈ xtt := xtt_t (i := 17) (by decide +kernel) (by decide +kernel)
theorem tw_18 : (Cond.initialized "java/lang/Math") ∈ xtt := xtt_t (i := 18) (by decide +kernel) (by decide +kernel)
theorem tw_25 : (Cond.instanceMethod ⟨"java/lang/Object", "<init>", "()V"⟩) ∈ xtt := xtt_t (i := 25) (by decide +kernel) (by decide +kernel)
theorem tw_26 : (Cond.code ⟨"java/lang/Object", "<init>", "()V"⟩ object_method_1_code 1 (none : Option FieldType)) ∈ xtt := xtt_t (i := 26) (by decide +kernel) (by decide +kernel)
theorem tw_33 : (Cond.fieldLink "NameMover$Store" 9 "NameMover$Store" "names" "[J") ∈ xtt := xtt_t (i := 33) (by decide +kernel) (by decide +kernel)
theorem tw_34 : (Cond.fieldLink "NameMover$ClassWriter" 36 "NameMover$Store" "names" "[J") ∈ xtt := xtt_t (i := 34) (by decide +kernel) (by decide +kernel)
theorem tw_35 : (Cond.fieldLink "NameMover$Problems" 39 "NameMover$Store" "names" "[J") ∈ xtt := xtt_t (i := 35) (by decide +kernel) (by decide +kernel)
theorem tw_36 : (Cond.fieldLink "NameMover" 168 "NameMover$Store" "names" "[J") ∈ xtt := xtt_t (i := 36) (by decide +kernel) (by decide +kernel)
theorem tw_37 : (Cond.fieldLink "NameMover$Store" 13 "NameMover$Store" "newNames" "[J") ∈ xtt := xtt_t (i := 37) (by decide +kernel) (by decide +kernel)
theorem tw_38 : (Cond.fieldLink "NameMover$Problems" 35 "NameMover$Store" "newNames" "[J") ∈ xtt := xtt_t (i := 38) (by decide +kernel) (by decide +kernel)
theorem tw_39 : (Cond.fieldLink "NameMover" 120 "NameMover$Store" "newNames" "[J") ∈ xtt := xtt_t (i := 39) (by decide +kernel) (by decide +kernel)
theorem tw_40 : (Cond.fieldLink "NameMover$Store" 16 "NameMover$Store" "superclasses" "[I") ∈ xtt := xtt_t (i := 40) (by decide +kernel) (by decide +kernel)
theorem tw_41 : (Cond.fieldLink "NameMover$ClassWriter" 46 "NameMover$Store" "superclasses" "[I") ∈ xtt := xtt_t (i := 41) (by decide +kernel) (by decide +kernel)
theorem tw_42 : (Cond.fieldLink "NameMover$Store" 20 "NameMover$Store" "libraries" "[Z") ∈ xtt := xtt_t (i := 42) (by decide +kernel) (by decide +kernel)
theorem tw_43 : (Cond.fieldLink "NameMover$ClassWriter" 53 "NameMover$Store" "libraries" "[Z") ∈ xtt := xtt_t (i := 43) (by decide +kernel) (by decide +kernel)
theorem tw_44 : (Cond.fieldLink "NameMover$Problems" 31 "NameMover$Store" "libraries" "[Z") ∈ xtt := xtt_t (i := 44) (by decide +kernel) (by decide +kernel)
theorem tw_45 : (Cond.fieldLink "NameMover$Store" 24 "NameMover$Store" "memberCounts" "[I") ∈ xtt := xtt_t (i := 45) (by decide +kernel) (by decide +kernel)
theorem tw_46 : (Cond.fieldLink "NameMover$ClassWriter" 57 "NameMover$Store" "memberCounts" "[I") ∈ xtt := xtt_t (i := 46) (by decide +kernel) (by decide +kernel)
theorem tw_47 : (Cond.fieldLink "NameMover$Store" 27 "NameMover$Store" "ancestors" "[I") ∈ xtt := xtt_t (i := 47) (by decide +kernel) (by decide +kernel)
theorem tw_48 : (Cond.fieldLink "NameMover$Store" 30 "NameMover$Store" "memberNames" "[J") ∈ xtt := xtt_t (i := 48) (by decide +kernel) (by decide +kernel)
theorem tw_49 : (Cond.fieldLink "NameMover$ClassWriter" 64 "NameMover$Store" "memberNames" "[J") ∈ xtt := xtt_t (i := 49) (by decide +kernel) (by decide +kernel)
theorem tw_50 : (Cond.fieldLink "NameMover$Problems" 61 "NameMover$Store" "memberNames" "[J") ∈ xtt := xtt_t (i := 50) (by decide +kernel) (by decide +kernel)
theorem tw_51 : (Cond.fieldLink "NameMover" 174 "NameMover$Store" "memberNames" "[J") ∈ xtt := xtt_t (i := 51) (by decide +kernel) (by decide +kernel)
theorem tw_52 : (Cond.fieldLink "NameMover$Store" 33 "NameMover$Store" "memberNewNames" "[J") ∈ xtt := xtt_t (i := 52) (by decide +kernel) (by decide +kernel)
theorem tw_53 : (Cond.fieldLink "NameMover$Problems" 58 "NameMover$Store" "memberNewNames" "[J") ∈ xtt := xtt_t (i := 53) (by decide +kernel) (by decide +kernel)
theorem tw_54 : (Cond.fieldLink "NameMover" 171 "NameMover$Store" "memberNewNames" "[J") ∈ xtt := xtt_t (i := 54) (by decide +kernel) (by decide +kernel)
theorem tw_55 : (Cond.fieldLink "NameMover$Store" 36 "NameMover$Store" "descriptors" "[J") ∈ xtt := xtt_t (i := 55) (by decide +kernel) (by decide +kernel)
theorem tw_56 : (Cond.fieldLink "NameMover$ClassWriter" 67 "NameMover$Store" "descriptors" "[J") ∈ xtt := xtt_t (i := 56) (by decide +kernel) (by decide +kernel)
theorem tw_57 : (Cond.fieldLink "NameMover$Problems" 86 "NameMover$Store" "descriptors" "[J") ∈ xtt := xtt_t (i := 57) (by decide +kernel) (by decide +kernel)
theorem tw_58 : (Cond.fieldLink "NameMover$Store" 39 "NameMover$Store" "fixed" "[Z") ∈ xtt := xtt_t (i := 58) (by decide +kernel) (by decide +kernel)
theorem tw_59 : (Cond.fieldLink "NameMover$ClassWriter" 73 "NameMover$Store" "fixed" "[Z") ∈ xtt := xtt_t (i := 59) (by decide +kernel) (by decide +kernel)
theorem tw_60 : (Cond.fieldLink "NameMover$Store" 42 "NameMover$Store" "count" "I") ∈ xtt := xtt_t (i := 60) (by decide +kernel) (by decide +kernel)
theorem tw_61 : (Cond.fieldLink "NameMover$ClassReader" 48 "NameMover$Store" "count" "I") ∈ xtt := xtt_t (i := 61) (by decide +kernel) (by decide +kernel)
theorem tw_62 : (Cond.fieldLink "NameMover" 74 "NameMover$Store" "count" "I") ∈ xtt := xtt_t (i := 62) (by decide +kernel) (by decide +kernel)
theorem tw_63 : (Cond.fieldLink "NameMover$Problems" 25 "NameMover$Store" "count" "I") ∈ xtt := xtt_t (i := 63) (by decide +kernel) (by decide +kernel)
theorem tw_64 : (Cond.laysFinal "NameMover$Store" "NameMover$Store" "names" "[J") ∈ xtt := xtt_t (i := 64) (by decide +kernel) (by decide +kernel)
theorem tw_66 : (Cond.laysFinal "NameMover$Store" "NameMover$Store" "newNames" "[J") ∈ xtt := xtt_t (i := 66) (by decide +kernel) (by decide +kernel)
theorem tw_68 : (Cond.laysFinal "NameMover$Store" "NameMover$Store" "superclasses" "[I") ∈ xtt := xtt_t (i := 68) (by decide +kernel) (by decide +kernel)
theorem tw_70 : (Cond.laysFinal "NameMover$Store" "NameMover$Store" "libraries" "[Z") ∈ xtt := xtt_t (i := 70) (by decide +kernel) (by decide +kernel)
theorem tw_72 : (Cond.laysFinal "NameMover$Store" "NameMover$Store" "memberCounts" "[I") ∈ xtt := xtt_t (i := 72) (by decide +kernel) (by decide +kernel)
theorem tw_74 : (Cond.laysFinal "NameMover$Store" "NameMover$Store" "ancestors" "[I") ∈ xtt := xtt_t (i := 74) (by decide +kernel) (by decide +kernel)
theorem tw_76 : (Cond.laysFinal "NameMover$Store" "NameMover$Store" "memberNames" "[J") ∈ xtt := xtt_t (i := 76) (by decide +kernel) (by decide +kernel)
theorem tw_78 : (Cond.laysFinal "NameMover$Store" "NameMover$Store" "memberNewNames" "[J") ∈ xtt := xtt_t (i := 78) (by decide +kernel) (by decide +kernel)
theorem tw_80 : (Cond.laysFinal "NameMover$Store" "NameMover$Store" "descriptors" "[J") ∈ xtt := xtt_t (i := 80) (by decide +kernel) (by decide +kernel)
theorem tw_82 : (Cond.laysFinal "NameMover$Store" "NameMover$Store" "fixed" "[Z") ∈ xtt := xtt_t (i := 82) (by decide +kernel) (by decide +kernel)
theorem tw_84 : (Cond.lays "NameMover$Store" "NameMover$Store" "count" "I") ∈ xtt := xtt_t (i := 84) (by decide +kernel) (by decide +kernel)
theorem tw_96 : (Cond.fieldLink "NameMover$ByteRow" 9 "NameMover$ByteRow" "bytes" "[I") ∈ xtt := xtt_t (i := 96) (by decide +kernel) (by decide +kernel)
theorem tw_97 : (Cond.fieldLink "NameMover$ByteRow" 13 "NameMover$ByteRow" "length" "I") ∈ xtt := xtt_t (i := 97) (by decide +kernel) (by decide +kernel)
theorem tw_98 : (Cond.laysFinal "NameMover$ByteRow" "NameMover$ByteRow" "bytes" "[I") ∈ xtt := xtt_t (i := 98) (by decide +kernel) (by decide +kernel)
theorem tw_100 : (Cond.lays "NameMover$ByteRow" "NameMover$ByteRow" "length" "I") ∈ xtt := xtt_t (i := 100) (by decide +kernel) (by decide +kernel)
theorem tw_109 : (Cond.fieldLink "NameMover$ClassWriter" 25 "NameMover$ClassWriter" "store" "LNameMover$Store;") ∈ xtt := xtt_t (i := 109) (by decide +kernel) (by decide +kernel)
theorem tw_110 : (Cond.fieldLink "NameMover$ClassWriter" 29 "NameMover$ClassWriter" "row" "LNameMover$ByteRow;") ∈ xtt := xtt_t (i := 110) (by decide +kernel) (by decide +kernel)
theorem tw_111 : (Cond.fieldLink "NameMover$ClassWriter" 9 "NameMover$ClassWriter" "behindPool" "[I") ∈ xtt := xtt_t (i := 111) (by decide +kernel) (by decide +kernel)
theorem tw_112 : (Cond.fieldLink "NameMover$ClassWriter" 15 "NameMover$ClassWriter" "waiting" "I") ∈ xtt := xtt_t (i := 112) (by decide +kernel) (by decide +kernel)
theorem tw_113 : (Cond.fieldLink "NameMover$ClassWriter" 19 "NameMover$ClassWriter" "starts" "[I") ∈ xtt := xtt_t (i := 113) (by decide +kernel) (by decide +kernel)
theorem tw_114 : (Cond.fieldLink "NameMover$ClassWriter" 22 "NameMover$ClassWriter" "texts" "I") ∈ xtt := xtt_t (i := 114) (by decide +kernel) (by decide +kernel)
theorem tw_115 : (Cond.laysFinal "NameMover$ClassWriter" "NameMover$ClassWriter" "store" "LNameMover$Store;") ∈ xtt := xtt_t (i := 115) (by decide +kernel) (by decide +kernel)
theorem tw_117 : (Cond.laysFinal "NameMover$ClassWriter" "NameMover$ClassWriter" "row" "LNameMover$ByteRow;") ∈ xtt := xtt_t (i := 117) (by decide +kernel) (by decide +kernel)
theorem tw_119 : (Cond.laysFinal "NameMover$ClassWriter" "NameMover$ClassWriter" "behindPool" "[I") ∈ xtt := xtt_t (i := 119) (by decide +kernel) (by decide +kernel)
theorem tw_121 : (Cond.lays "NameMover$ClassWriter" "NameMover$ClassWriter" "waiting" "I") ∈ xtt := xtt_t (i := 121) (by decide +kernel) (by decide +kernel)
theorem tw_123 : (Cond.laysFinal "NameMover$ClassWriter" "NameMover$ClassWriter" "starts" "[I") ∈ xtt := xtt_t (i := 123) (by decide +kernel) (by decide +kernel)
theorem tw_125 : (Cond.lays "NameMover$ClassWriter" "NameMover$ClassWriter" "texts" "I") ∈ xtt := xtt_t (i := 125) (by decide +kernel) (by decide +kernel)
theorem tw_134 : (Cond.fieldLink "NameMover$ClassReader" 22 "NameMover$ClassReader" "store" "LNameMover$Store;") ∈ xtt := xtt_t (i := 134) (by decide +kernel) (by decide +kernel)
theorem tw_135 : (Cond.fieldLink "NameMover$ClassReader" 26 "NameMover$ClassReader" "row" "LNameMover$ByteRow;") ∈ xtt := xtt_t (i := 135) (by decide +kernel) (by decide +kernel)
theorem tw_136 : (Cond.fieldLink "NameMover$ClassReader" 9 "NameMover$ClassReader" "starts" "[I") ∈ xtt := xtt_t (i := 136) (by decide +kernel) (by decide +kernel)
theorem tw_137 : (Cond.fieldLink "NameMover$ClassReader" 15 "NameMover$ClassReader" "texts" "I") ∈ xtt := xtt_t (i := 137) (by decide +kernel) (by decide +kernel)
theorem tw_138 : (Cond.fieldLink "NameMover$ClassReader" 19 "NameMover$ClassReader" "at" "I") ∈ xtt := xtt_t (i := 138) (by decide +kernel) (by decide +kernel)
theorem tw_139 : (Cond.laysFinal "NameMover$ClassReader" "NameMover$ClassReader" "store" "LNameMover$Store;") ∈ xtt := xtt_t (i := 139) (by decide +kernel) (by decide +kernel)
theorem tw_141 : (Cond.laysFinal "NameMover$ClassReader" "NameMover$ClassReader" "row" "LNameMover$ByteRow;") ∈ xtt := xtt_t (i := 141) (by decide +kernel) (by decide +kernel)
theorem tw_143 : (Cond.laysFinal "NameMover$ClassReader" "NameMover$ClassReader" "starts" "[I") ∈ xtt := xtt_t (i := 143) (by decide +kernel) (by decide +kernel)
theorem tw_145 : (Cond.lays "NameMover$ClassReader" "NameMover$ClassReader" "texts" "I") ∈ xtt := xtt_t (i := 145) (by decide +kernel) (by decide +kernel)
theorem tw_147 : (Cond.lays "NameMover$ClassReader" "NameMover$ClassReader" "at" "I") ∈ xtt := xtt_t (i := 147) (by decide +kernel) (by decide +kernel)
theorem tw_150 : (Cond.fieldLink "NameMover" 10 "NameMover" "store" "LNameMover$Store;") ∈ xtt := xtt_t (i := 150) (by decide +kernel) (by decide +kernel)
theorem tw_151 : (Cond.fieldLink "NameMover" 19 "NameMover" "buffer" "LNameMover$ByteRow;") ∈ xtt := xtt_t (i := 151) (by decide +kernel) (by decide +kernel)
theorem tw_152 : (Cond.fieldLink "NameMover" 23 "NameMover" "trial" "LNameMover$ByteRow;") ∈ xtt := xtt_t (i := 152) (by decide +kernel) (by decide +kernel)
theorem tw_153 : (Cond.fieldLink "NameMover" 31 "NameMover" "writer" "LNameMover$ClassWriter;") ∈ xtt := xtt_t (i := 153) (by decide +kernel) (by decide +kernel)
theorem tw_154 : (Cond.fieldLink "NameMover" 35 "NameMover" "trialWriter" "LNameMover$ClassWriter;") ∈ xtt := xtt_t (i := 154) (by decide +kernel) (by decide +kernel)
theorem tw_155 : (Cond.fieldLink "NameMover" 41 "NameMover" "reader" "LNameMover$ClassReader;") ∈ xtt := xtt_t (i := 155) (by decide +kernel) (by decide +kernel)
theorem tw_156 : (Cond.laysFinal "NameMover" "NameMover" "store" "LNameMover$Store;") ∈ xtt := xtt_t (i := 156) (by decide +kernel) (by decide +kernel)
theorem tw_158 : (Cond.laysFinal "NameMover" "NameMover" "buffer" "LNameMover$ByteRow;") ∈ xtt := xtt_t (i := 158) (by decide +kernel) (by decide +kernel)
theorem tw_160 : (Cond.laysFinal "NameMover" "NameMover" "trial" "LNameMover$ByteRow;") ∈ xtt := xtt_t (i := 160) (by decide +kernel) (by decide +kernel)
theorem tw_162 : (Cond.laysFinal "NameMover" "NameMover" "writer" "LNameMover$ClassWriter;") ∈ xtt := xtt_t (i := 162) (by decide +kernel) (by decide +kernel)
theorem tw_164 : (Cond.laysFinal "NameMover" "NameMover" "trialWriter" "LNameMover$ClassWriter;") ∈ xtt := xtt_t (i := 164) (by decide +kernel) (by decide +kernel)
theorem tw_166 : (Cond.laysFinal "NameMover" "NameMover" "reader" "LNameMover$ClassReader;") ∈ xtt := xtt_t (i := 166) (by decide +kernel) (by decide +kernel)
theorem tw_169 : (Cond.methodLink "NameMoverLaw" 98 ⟨"NameMover", "problem", "()I"⟩) ∈ xtt := xtt_t (i := 169) (by decide +kernel) (by decide +kernel)
theorem tw_170 : (Cond.instanceMethod ⟨"NameMover", "problem", "()I"⟩) ∈ xtt := xtt_t (i := 170) (by decide +kernel) (by decide +kernel)
theorem tw_171 : (Cond.selects "NameMover" ⟨"NameMover", "problem", "()I"⟩ ⟨"NameMover", "problem", "()I"⟩) ∈ xtt := xtt_t (i := 171) (by decide +kernel) (by decide +kernel)
theorem tw_172 : (Cond.code ⟨"NameMover", "problem", "()I"⟩ prog_1_method_7_code 1 (some .int)) ∈ xtt := xtt_t (i := 172) (by decide +kernel) (by decide +kernel)
theorem tw_173 : (Cond.methodLink "NameMover" 151 ⟨"NameMover$Problems", "least", "(LNameMover$Store;)I"⟩) ∈ xtt := xtt_t (i := 173) (by decide +kernel) (by decide +kernel)
theorem tw_174 : (Cond.static ⟨"NameMover$Problems", "least", "(LNameMover$Store;)I"⟩) ∈ xtt := xtt_t (i := 174) (by decide +kernel) (by decide +kernel)
theorem tw_175 : (Cond.code ⟨"NameMover$Problems", "least", "(LNameMover$Store;)I"⟩ prog_7_method_2_code 2 (some .int)) ∈ xtt := xtt_t (i := 175) (by decide +kernel) (by decide +kernel)
theorem tw_176 : (Cond.methodLink "NameMover$Problems" 7 ⟨"NameMover$Problems", "libraryClass", "(LNameMover$Store;)I"⟩) ∈ xtt := xtt_t (i := 176) (by decide +kernel) (by decide +kernel)
theorem tw_177 : (Cond.static ⟨"NameMover$Problems", "libraryClass", "(LNameMover$Store;)I"⟩) ∈ xtt := xtt_t (i := 177) (by decide +kernel) (by decide +kernel)
theorem tw_178 : (Cond.code ⟨"NameMover$Problems", "libraryClass", "(LNameMover$Store;)I"⟩ prog_7_method_4_code 2 (some .int)) ∈ xtt := xtt_t (i := 178) (by decide +kernel) (by decide +kernel)
theorem tw_179 : (Cond.methodLink "NameMover$Problems" 42 ⟨"NameMover$Problems", "told", "(III)I"⟩) ∈ xtt := xtt_t (i := 179) (by decide +kernel) (by decide +kernel)
theorem tw_180 : (Cond.static ⟨"NameMover$Problems", "told", "(III)I"⟩) ∈ xtt := xtt_t (i := 180) (by decide +kernel) (by decide +kernel)
theorem tw_181 : (Cond.code ⟨"NameMover$Problems", "told", "(III)I"⟩ prog_7_method_3_code 3 (some .int)) ∈ xtt := xtt_t (i := 181) (by decide +kernel) (by decide +kernel)
theorem tw_182 : (Cond.methodLink "NameMover$Problems" 13 ⟨"NameMover$Problems", "libraryMember", "(LNameMover$Store;)I"⟩) ∈ xtt := xtt_t (i := 182) (by decide +kernel) (by decide +kernel)
theorem tw_183 : (Cond.static ⟨"NameMover$Problems", "libraryMember", "(LNameMover$Store;)I"⟩) ∈ xtt := xtt_t (i := 183) (by decide +kernel) (by decide +kernel)
theorem tw_184 : (Cond.code ⟨"NameMover$Problems", "libraryMember", "(LNameMover$Store;)I"⟩ prog_7_method_5_code 2 (some .int)) ∈ xtt := xtt_t (i := 184) (by decide +kernel) (by decide +kernel)
theorem tw_185 : (Cond.methodLink "NameMover$Problems" 46 ⟨"NameMover$Store", "numbersEnd", "()I"⟩) ∈ xtt := xtt_t (i := 185) (by decide +kernel) (by decide +kernel)
theorem tw_186 : (Cond.instanceMethod ⟨"NameMover$Store", "numbersEnd", "()I"⟩) ∈ xtt := xtt_t (i := 186) (by decide +kernel) (by decide +kernel)
theorem tw_187 : (Cond.selects "NameMover$Store" ⟨"NameMover$Store", "numbersEnd", "()I"⟩ ⟨"NameMover$Store", "numbersEnd", "()I"⟩) ∈ xtt := xtt_t (i := 187) (by decide +kernel) (by decide +kernel)
theorem tw_188 : (Cond.code ⟨"NameMover$Store", "numbersEnd", "()I"⟩ prog_8_method_4_code 1 (some .int)) ∈ xtt := xtt_t (i := 188) (by decide +kernel) (by decide +kernel)
theorem tw_189 : (Cond.methodLink "NameMover$Problems" 50 ⟨"NameMover$Store", "isMemberNumber", "(I)Z"⟩) ∈ xtt := xtt_t (i := 189) (by decide +kernel) (by decide +kernel)
theorem tw_190 : (Cond.instanceMethod ⟨"NameMover$Store", "isMemberNumber", "(I)Z"⟩) ∈ xtt := xtt_t (i := 190) (by decide +kernel) (by decide +kernel)
theorem tw_191 : (Cond.selects "NameMover$Store" ⟨"NameMover$Store", "isMemberNumber", "(I)Z"⟩ ⟨"NameMover$Store", "isMemberNumber", "(I)Z"⟩) ∈ xtt := xtt_t (i := 191) (by decide +kernel) (by decide +kernel)
theorem tw_192 : (Cond.code ⟨"NameMover$Store", "isMemberNumber", "(I)Z"⟩ prog_8_method_7_code 2 (some .boolean)) ∈ xtt := xtt_t (i := 192) (by decide +kernel) (by decide +kernel)
theorem tw_193 : (Cond.methodLink "NameMover$Store" 50 ⟨"NameMover$Store", "classOf", "(I)I"⟩) ∈ xtt := xtt_t (i := 193) (by decide +kernel) (by decide +kernel)
theorem tw_194 : (Cond.static ⟨"NameMover$Store", "classOf", "(I)I"⟩) ∈ xtt := xtt_t (i := 194) (by decide +kernel) (by decide +kernel)
theorem tw_195 : (Cond.code ⟨"NameMover$Store", "classOf", "(I)I"⟩ prog_8_method_3_code 1 (some .int)) ∈ xtt := xtt_t (i := 195) (by decide +kernel) (by decide +kernel)
theorem tw_196 : (Cond.methodLink "NameMover$Store" 54 ⟨"NameMover$Store", "isMember", "(II)Z"⟩) ∈ xtt := xtt_t (i := 196) (by decide +kernel) (by decide +kernel)
theorem tw_197 : (Cond.instanceMethod ⟨"NameMover$Store", "isMember", "(II)Z"⟩) ∈ xtt := xtt_t (i := 197) (by decide +kernel) (by decide +kernel)
theorem tw_198 : (Cond.selects "NameMover$Store" ⟨"NameMover$Store", "isMember", "(II)Z"⟩ ⟨"NameMover$Store", "isMember", "(II)Z"⟩) ∈ xtt := xtt_t (i := 198) (by decide +kernel) (by decide +kernel)
theorem tw_199 : (Cond.code ⟨"NameMover$Store", "isMember", "(II)Z"⟩ prog_8_method_6_code 3 (some .boolean)) ∈ xtt := xtt_t (i := 199) (by decide +kernel) (by decide +kernel)
theorem tw_200 : (Cond.methodLink "NameMover$Store" 46 ⟨"NameMover$Store", "isClass", "(I)Z"⟩) ∈ xtt := xtt_t (i := 200) (by decide +kernel) (by decide +kernel)
theorem tw_201 : (Cond.instanceMethod ⟨"NameMover$Store", "isClass", "(I)Z"⟩) ∈ xtt := xtt_t (i := 201) (by decide +kernel) (by decide +kernel)
theorem tw_202 : (Cond.selects "NameMover$Store" ⟨"NameMover$Store", "isClass", "(I)Z"⟩ ⟨"NameMover$Store", "isClass", "(I)Z"⟩) ∈ xtt := xtt_t (i := 202) (by decide +kernel) (by decide +kernel)
theorem tw_203 : (Cond.code ⟨"NameMover$Store", "isClass", "(I)Z"⟩ prog_8_method_5_code 2 (some .boolean)) ∈ xtt := xtt_t (i := 203) (by decide +kernel) (by decide +kernel)
theorem tw_204 : (Cond.methodLink "NameMover$Problems" 54 ⟨"NameMover$Store", "classOf", "(I)I"⟩) ∈ xtt := xtt_t (i := 204) (by decide +kernel) (by decide +kernel)
theorem tw_205 : (Cond.methodLink "NameMover$Problems" 16 ⟨"NameMover$Problems", "sameClassName", "(LNameMover$Store;)I"⟩) ∈ xtt := xtt_t (i := 205) (by decide +kernel) (by decide +kernel)
theorem tw_206 : (Cond.static ⟨"NameMover$Problems", "sameClassName", "(LNameMover$Store;)I"⟩) ∈ xtt := xtt_t (i := 206) (by decide +kernel) (by decide +kernel)
theorem tw_207 : (Cond.code ⟨"NameMover$Problems", "sameClassName", "(LNameMover$Store;)I"⟩ prog_7_method_6_code 3 (some .int)) ∈ xtt := xtt_t (i := 207) (by decide +kernel) (by decide +kernel)
theorem tw_208 : (Cond.methodLink "NameMover$Problems" 19 ⟨"NameMover$Problems", "otherPackages", "(LNameMover$Store;)I"⟩) ∈ xtt := xtt_t (i := 208) (by decide +kernel) (by decide +kernel)
theorem tw_209 : (Cond.static ⟨"NameMover$Problems", "otherPackages", "(LNameMover$Store;)I"⟩) ∈ xtt := xtt_t (i := 209) (by decide +kernel) (by decide +kernel)
theorem tw_210 : (Cond.code ⟨"NameMover$Problems", "otherPackages", "(LNameMover$Store;)I"⟩ prog_7_method_7_code 3 (some .int)) ∈ xtt := xtt_t (i := 210) (by decide +kernel) (by decide +kernel)
theorem tw_211 : (Cond.methodLink "NameMover$Problems" 64 ⟨"NameMover$Problems", "inOnePackage", "(JJ)Z"⟩) ∈ xtt := xtt_t (i := 211) (by decide +kernel) (by decide +kernel)
theorem tw_212 : (Cond.static ⟨"NameMover$Problems", "inOnePackage", "(JJ)Z"⟩) ∈ xtt := xtt_t (i := 212) (by decide +kernel) (by decide +kernel)
theorem tw_213 : (Cond.code ⟨"NameMover$Problems", "inOnePackage", "(JJ)Z"⟩ prog_7_method_8_code 4 (some .boolean)) ∈ xtt := xtt_t (i := 213) (by decide +kernel) (by decide +kernel)
theorem tw_214 : (Cond.methodLink "NameMover$Problems" 68 ⟨"NameMover$Text", "packageOf", "(J)J"⟩) ∈ xtt := xtt_t (i := 214) (by decide +kernel) (by decide +kernel)
theorem tw_215 : (Cond.static ⟨"NameMover$Text", "packageOf", "(J)J"⟩) ∈ xtt := xtt_t (i := 215) (by decide +kernel) (by decide +kernel)
theorem tw_216 : (Cond.code ⟨"NameMover$Text", "packageOf", "(J)J"⟩ prog_9_method_8_code 3 (some .long)) ∈ xtt := xtt_t (i := 216) (by decide +kernel) (by decide +kernel)
theorem tw_217 : (Cond.methodLink "NameMover$Text" 28 ⟨"NameMover$Text", "lastSlash", "(J)I"⟩) ∈ xtt := xtt_t (i := 217) (by decide +kernel) (by decide +kernel)
theorem tw_218 : (Cond.static ⟨"NameMover$Text", "lastSlash", "(J)I"⟩) ∈ xtt := xtt_t (i := 218) (by decide +kernel) (by decide +kernel)
theorem tw_219 : (Cond.code ⟨"NameMover$Text", "lastSlash", "(J)I"⟩ prog_9_method_11_code 3 (some .int)) ∈ xtt := xtt_t (i := 219) (by decide +kernel) (by decide +kernel)
theorem tw_220 : (Cond.methodLink "NameMover$Text" 9 ⟨"NameMover$Text", "charAt", "(JI)I"⟩) ∈ xtt := xtt_t (i := 220) (by decide +kernel) (by decide +kernel)
theorem tw_221 : (Cond.static ⟨"NameMover$Text", "charAt", "(JI)I"⟩) ∈ xtt := xtt_t (i := 221) (by decide +kernel) (by decide +kernel)
theorem tw_222 : (Cond.code ⟨"NameMover$Text", "charAt", "(JI)I"⟩ prog_9_method_2_code 3 (some .int)) ∈ xtt := xtt_t (i := 222) (by decide +kernel) (by decide +kernel)
theorem tw_223 : (Cond.methodLink "NameMover$Problems" 22 ⟨"NameMover$Problems", "sameMemberName", "(LNameMover$Store;)I"⟩) ∈ xtt := xtt_t (i := 223) (by decide +kernel) (by decide +kernel)
theorem tw_224 : (Cond.static ⟨"NameMover$Problems", "sameMemberName", "(LNameMover$Store;)I"⟩) ∈ xtt := xtt_t (i := 224) (by decide +kernel) (by decide +kernel)
theorem tw_225 : (Cond.code ⟨"NameMover$Problems", "sameMemberName", "(LNameMover$Store;)I"⟩ prog_7_method_9_code 3 (some .int)) ∈ xtt := xtt_t (i := 225) (by decide +kernel) (by decide +kernel)
theorem tw_226 : (Cond.methodLink "NameMover$Problems" 74 ⟨"NameMover$Problems", "firstThatBecomes", "(LNameMover$Store;I)I"⟩) ∈ xtt := xtt_t (i := 226) (by decide +kernel) (by decide +kernel)
theorem tw_227 : (Cond.static ⟨"NameMover$Problems", "firstThatBecomes", "(LNameMover$Store;I)I"⟩) ∈ xtt := xtt_t (i := 227) (by decide +kernel) (by decide +kernel)
theorem tw_228 : (Cond.code ⟨"NameMover$Problems", "firstThatBecomes", "(LNameMover$Store;I)I"⟩ prog_7_method_10_code 3 (some .int)) ∈ xtt := xtt_t (i := 228) (by decide +kernel) (by decide +kernel)
theorem tw_229 : (Cond.methodLink "NameMover$Problems" 78 ⟨"NameMover$Problems", "becomeOne", "(LNameMover$Store;II)Z"⟩) ∈ xtt := xtt_t (i := 229) (by decide +kernel) (by decide +kernel)
theorem tw_230 : (Cond.static ⟨"NameMover$Problems", "becomeOne", "(LNameMover$Store;II)Z"⟩) ∈ xtt := xtt_t (i := 230) (by decide +kernel) (by decide +kernel)
theorem tw_231 : (Cond.code ⟨"NameMover$Problems", "becomeOne", "(LNameMover$Store;II)Z"⟩ prog_7_method_11_code 3 (some .boolean)) ∈ xtt := xtt_t (i := 231) (by decide +kernel) (by decide +kernel)
theorem tw_232 : (Cond.methodLink "NameMover$Problems" 82 ⟨"NameMover$Store", "isSameOrAncestor", "(II)Z"⟩) ∈ xtt := xtt_t (i := 232) (by decide +kernel) (by decide +kernel)
theorem tw_233 : (Cond.instanceMethod ⟨"NameMover$Store", "isSameOrAncestor", "(II)Z"⟩) ∈ xtt := xtt_t (i := 233) (by decide +kernel) (by decide +kernel)
theorem tw_234 : (Cond.selects "NameMover$Store" ⟨"NameMover$Store", "isSameOrAncestor", "(II)Z"⟩ ⟨"NameMover$Store", "isSameOrAncestor", "(II)Z"⟩) ∈ xtt := xtt_t (i := 234) (by decide +kernel) (by decide +kernel)
theorem tw_235 : (Cond.code ⟨"NameMover$Store", "isSameOrAncestor", "(II)Z"⟩ prog_8_method_12_code 3 (some .boolean)) ∈ xtt := xtt_t (i := 235) (by decide +kernel) (by decide +kernel)
theorem tw_236 : (Cond.methodLink "NameMoverLaw" 106 ⟨"NameMover", "cancel", "()I"⟩) ∈ xtt := xtt_t (i := 236) (by decide +kernel) (by decide +kernel)
theorem tw_237 : (Cond.instanceMethod ⟨"NameMover", "cancel", "()I"⟩) ∈ xtt := xtt_t (i := 237) (by decide +kernel) (by decide +kernel)
theorem tw_238 : (Cond.selects "NameMover" ⟨"NameMover", "cancel", "()I"⟩ ⟨"NameMover", "cancel", "()I"⟩) ∈ xtt := xtt_t (i := 238) (by decide +kernel) (by decide +kernel)
theorem tw_239 : (Cond.code ⟨"NameMover", "cancel", "()I"⟩ prog_1_method_9_code 2 (some .int)) ∈ xtt := xtt_t (i := 239) (by decide +kernel) (by decide +kernel)
theorem tw_240 : (Cond.methodLink "NameMover" 159 ⟨"NameMover$Store", "changedNames", "()I"⟩) ∈ xtt := xtt_t (i := 240) (by decide +kernel) (by decide +kernel)
theorem tw_241 : (Cond.instanceMethod ⟨"NameMover$Store", "changedNames", "()I"⟩) ∈ xtt := xtt_t (i := 241) (by decide +kernel) (by decide +kernel)
theorem tw_242 : (Cond.selects "NameMover$Store" ⟨"NameMover$Store", "changedNames", "()I"⟩ ⟨"NameMover$Store", "changedNames", "()I"⟩) ∈ xtt := xtt_t (i := 242) (by decide +kernel) (by decide +kernel)
theorem tw_243 : (Cond.code ⟨"NameMover$Store", "changedNames", "()I"⟩ prog_8_method_18_code 3 (some .int)) ∈ xtt := xtt_t (i := 243) (by decide +kernel) (by decide +kernel)
theorem tw_244 : (Cond.methodLink "NameMover$Store" 73 ⟨"NameMover$Store", "numbersEnd", "()I"⟩) ∈ xtt := xtt_t (i := 244) (by decide +kernel) (by decide +kernel)
theorem tw_245 : (Cond.methodLink "NameMover$Store" 76 ⟨"NameMover$Store", "isMemberNumber", "(I)Z"⟩) ∈ xtt := xtt_t (i := 245) (by decide +kernel) (by decide +kernel)
theorem tw_246 : (Cond.methodLink "NameMover" 165 ⟨"NameMover$Store", "dropNewNames", "()V"⟩) ∈ xtt := xtt_t (i := 246) (by decide +kernel) (by decide +kernel)
theorem tw_247 : (Cond.instanceMethod ⟨"NameMover$Store", "dropNewNames", "()V"⟩) ∈ xtt := xtt_t (i := 247) (by decide +kernel) (by decide +kernel)
theorem tw_248 : (Cond.selects "NameMover$Store" ⟨"NameMover$Store", "dropNewNames", "()V"⟩ ⟨"NameMover$Store", "dropNewNames", "()V"⟩) ∈ xtt := xtt_t (i := 248) (by decide +kernel) (by decide +kernel)
theorem tw_249 : (Cond.code ⟨"NameMover$Store", "dropNewNames", "()V"⟩ prog_8_method_20_code 1 (none : Option FieldType)) ∈ xtt := xtt_t (i := 249) (by decide +kernel) (by decide +kernel)
theorem tw_250 : (Cond.methodLink "NameMover$Store" 79 ⟨"java/lang/System", "arraycopy", "(Ljava/lang/Object;ILjava/lang/Object;II)V"⟩) ∈ xtt := xtt_t (i := 250) (by decide +kernel) (by decide +kernel)
theorem tw_251 : (Cond.static ⟨"java/lang/System", "arraycopy", "(Ljava/lang/Object;ILjava/lang/Object;II)V"⟩) ∈ xtt := xtt_t (i := 251) (by decide +kernel) (by decide +kernel)
theorem tw_252 : (Cond.native ⟨"java/lang/System", "arraycopy", "(Ljava/lang/Object;ILjava/lang/Object;II)V"⟩) ∈ xtt := xtt_t (i := 252) (by decide +kernel) (by decide +kernel)
theorem tw_253 : (Cond.methodLink "NameMoverLaw" 110 ⟨"NameMover", "classes", "()I"⟩) ∈ xtt := xtt_t (i := 253) (by decide +kernel) (by decide +kernel)
theorem tw_254 : (Cond.instanceMethod ⟨"NameMover", "classes", "()I"⟩) ∈ xtt := xtt_t (i := 254) (by decide +kernel) (by decide +kernel)
theorem tw_255 : (Cond.selects "NameMover" ⟨"NameMover", "classes", "()I"⟩ ⟨"NameMover", "classes", "()I"⟩) ∈ xtt := xtt_t (i := 255) (by decide +kernel) (by decide +kernel)
theorem tw_256 : (Cond.code ⟨"NameMover", "classes", "()I"⟩ prog_1_method_10_code 1 (some .int)) ∈ xtt := xtt_t (i := 256) (by decide +kernel) (by decide +kernel)
theorem tw_257 : (Cond.methodLink "NameMoverLaw" 73 ⟨"NameMoverLaw", "declare", "(LNameMover;JIZ[J)I"⟩) ∈ xtt := xtt_t (i := 257) (by decide +kernel) (by decide +kernel)
theorem tw_258 : (Cond.static ⟨"NameMoverLaw", "declare", "(LNameMover;JIZ[J)I"⟩) ∈ xtt := xtt_t (i := 258) (by decide +kernel) (by decide +kernel)
theorem tw_259 : (Cond.codeWith ⟨"NameMoverLaw", "declare", "(LNameMover;JIZ[J)I"⟩ method_3_code 7 (some .int) [(0, 13, 16, 13), (0, 13, 20, 15), (0, 13, 24, 17)]) ∈ xtt := xtt_t (i := 259) (by decide +kernel) (by decide +kernel)
theorem tw_260 : (Cond.classLink "NameMoverLaw" 13 "java/lang/IllegalArgumentException") ∈ xtt := xtt_t (i := 260) (by decide +kernel) (by decide +kernel)
theorem tw_261 : (Cond.classLink "NameMoverLaw" 15 "java/lang/IndexOutOfBoundsException") ∈ xtt := xtt_t (i := 261) (by decide +kernel) (by decide +kernel)
theorem tw_262 : (Cond.classLink "NameMoverLaw" 17 "java/lang/IllegalStateException") ∈ xtt := xtt_t (i := 262) (by decide +kernel) (by decide +kernel)
theorem tw_263 : (Cond.methodLink "NameMoverLaw" 7 ⟨"NameMover", "declare", "(JIZ)I"⟩) ∈ xtt := xtt_t (i := 263) (by decide +kernel) (by decide +kernel)
theorem tw_264 : (Cond.instanceMethod ⟨"NameMover", "declare", "(JIZ)I"⟩) ∈ xtt := xtt_t (i := 264) (by decide +kernel) (by decide +kernel)
theorem tw_265 : (Cond.selects "NameMover" ⟨"NameMover", "declare", "(JIZ)I"⟩ ⟨"NameMover", "declare", "(JIZ)I"⟩) ∈ xtt := xtt_t (i := 265) (by decide +kernel) (by decide +kernel)
theorem tw_266 : (Cond.code ⟨"NameMover", "declare", "(JIZ)I"⟩ prog_1_method_2_code 5 (some .int)) ∈ xtt := xtt_t (i := 266) (by decide +kernel) (by decide +kernel)
theorem tw_267 : (Cond.methodLink "NameMover" 45 ⟨"NameMover$Text", "isClassName", "(J)Z"⟩) ∈ xtt := xtt_t (i := 267) (by decide +kernel) (by decide +kernel)
theorem tw_268 : (Cond.static ⟨"NameMover$Text", "isClassName", "(J)Z"⟩) ∈ xtt := xtt_t (i := 268) (by decide +kernel) (by decide +kernel)
theorem tw_269 : (Cond.code ⟨"NameMover$Text", "isClassName", "(J)Z"⟩ prog_9_method_5_code 6 (some .boolean)) ∈ xtt := xtt_t (i := 269) (by decide +kernel) (by decide +kernel)
theorem tw_270 : (Cond.methodLink "NameMover$Text" 13 ⟨"NameMover$Text", "length", "(J)I"⟩) ∈ xtt := xtt_t (i := 270) (by decide +kernel) (by decide +kernel)
theorem tw_271 : (Cond.static ⟨"NameMover$Text", "length", "(J)I"⟩) ∈ xtt := xtt_t (i := 271) (by decide +kernel) (by decide +kernel)
theorem tw_272 : (Cond.code ⟨"NameMover$Text", "length", "(J)I"⟩ prog_9_method_4_code 3 (some .int)) ∈ xtt := xtt_t (i := 272) (by decide +kernel) (by decide +kernel)
theorem tw_273 : (Cond.methodLink "NameMover$Text" 17 ⟨"NameMover$Text", "isLetter", "(I)Z"⟩) ∈ xtt := xtt_t (i := 273) (by decide +kernel) (by decide +kernel)
theorem tw_274 : (Cond.static ⟨"NameMover$Text", "isLetter", "(I)Z"⟩) ∈ xtt := xtt_t (i := 274) (by decide +kernel) (by decide +kernel)
theorem tw_275 : (Cond.code ⟨"NameMover$Text", "isLetter", "(I)Z"⟩ prog_9_method_12_code 1 (some .boolean)) ∈ xtt := xtt_t (i := 275) (by decide +kernel) (by decide +kernel)
theorem tw_276 : (Cond.methodLink "NameMover$Text" 21 ⟨"NameMover$Text", "isDigit", "(I)Z"⟩) ∈ xtt := xtt_t (i := 276) (by decide +kernel) (by decide +kernel)
theorem tw_277 : (Cond.static ⟨"NameMover$Text", "isDigit", "(I)Z"⟩) ∈ xtt := xtt_t (i := 277) (by decide +kernel) (by decide +kernel)
theorem tw_278 : (Cond.code ⟨"NameMover$Text", "isDigit", "(I)Z"⟩ prog_9_method_13_code 1 (some .boolean)) ∈ xtt := xtt_t (i := 278) (by decide +kernel) (by decide +kernel)
theorem tw_279 : (Cond.classLink "NameMover" 51 "java/lang/IllegalArgumentException") ∈ xtt := xtt_t (i := 279) (by decide +kernel) (by decide +kernel)
theorem tw_280 : (Cond.instantiable "java/lang/IllegalArgumentException" 6) ∈ xtt := xtt_t (i := 280) (by decide +kernel) (by decide +kernel)
theorem tw_281 : (Cond.castable "java/lang/IllegalArgumentException" "java/lang/IllegalArgumentException") ∈ xtt := xtt_t (i := 281) (by decide +kernel) (by decide +kernel)
theorem tw_283 : (Cond.declares ⟨"java/lang/RuntimeException", "<init>", "(Ljava/lang/String;)V"⟩) ∈ xtt := xtt_t (i := 283) (by decide +kernel) (by decide +kernel)
theorem tw_285 : (Cond.declares ⟨"java/lang/Exception", "<init>", "(Ljava/lang/String;)V"⟩) ∈ xtt := xtt_t (i := 285) (by decide +kernel) (by decide +kernel)
theorem tw_287 : (Cond.declares ⟨"java/lang/Throwable", "<init>", "(Ljava/lang/String;)V"⟩) ∈ xtt := xtt_t (i := 287) (by decide +kernel) (by decide +kernel)
theorem tw_288 : (Cond.selects "java/lang/IllegalArgumentException" ⟨"java/lang/Throwable", "fillInStackTrace", "(I)Ljava/lang/Throwable;"⟩ ⟨"java/lang/Throwable", "fillInStackTrace", "(I)Ljava/lang/Throwable;"⟩) ∈ xtt := xtt_t (i := 288) (by decide +kernel) (by decide +kernel)
theorem tw_289 : (Cond.selects "java/lang/IllegalArgumentException" ⟨"java/lang/Throwable", "fillInStackTrace", "()Ljava/lang/Throwable;"⟩ ⟨"java/lang/Throwable", "fillInStackTrace", "()Ljava/lang/Throwable;"⟩) ∈ xtt := xtt_t (i := 289) (by decide +kernel) (by decide +kernel)
theorem tw_290 : (Cond.lays "java/lang/IllegalArgumentException" "java/lang/Throwable" "cause" "Ljava/lang/Throwable;") ∈ xtt := xtt_t (i := 290) (by decide +kernel) (by decide +kernel)
theorem tw_291 : (Cond.lays "java/lang/Throwable" "java/lang/Throwable" "cause" "Ljava/lang/Throwable;") ∈ xtt := xtt_t (i := 291) (by decide +kernel) (by decide +kernel)
theorem tw_292 : (Cond.lays "java/lang/IllegalArgumentException" "java/lang/Throwable" "stackTrace" "[Ljava/lang/StackTraceElement;") ∈ xtt := xtt_t (i := 292) (by decide +kernel) (by decide +kernel)
theorem tw_293 : (Cond.lays "java/lang/Throwable" "java/lang/Throwable" "stackTrace" "[Ljava/lang/StackTraceElement;") ∈ xtt := xtt_t (i := 293) (by decide +kernel) (by decide +kernel)
theorem tw_294 : (Cond.lays "java/lang/IllegalArgumentException" "java/lang/Throwable" "suppressedExceptions" "Ljava/util/List;") ∈ xtt := xtt_t (i := 294) (by decide +kernel) (by decide +kernel)
theorem tw_295 : (Cond.lays "java/lang/Throwable" "java/lang/Throwable" "suppressedExceptions" "Ljava/util/List;") ∈ xtt := xtt_t (i := 295) (by decide +kernel) (by decide +kernel)
theorem tw_296 : (Cond.lays "java/lang/IllegalArgumentException" "java/lang/Throwable" "detailMessage" "Ljava/lang/String;") ∈ xtt := xtt_t (i := 296) (by decide +kernel) (by decide +kernel)
theorem tw_297 : (Cond.lays "java/lang/Throwable" "java/lang/Throwable" "detailMessage" "Ljava/lang/String;") ∈ xtt := xtt_t (i := 297) (by decide +kernel) (by decide +kernel)
theorem tw_298 : (Cond.lays "java/lang/IllegalArgumentException" "java/lang/Throwable" "backtrace" "Ljava/lang/Object;") ∈ xtt := xtt_t (i := 298) (by decide +kernel) (by decide +kernel)
theorem tw_299 : (Cond.lays "java/lang/Throwable" "java/lang/Throwable" "backtrace" "Ljava/lang/Object;") ∈ xtt := xtt_t (i := 299) (by decide +kernel) (by decide +kernel)
theorem tw_300 : (Cond.fieldLink "java/lang/Throwable" 198 "java/lang/Throwable" "backtrace" "Ljava/lang/Object;") ∈ xtt := xtt_t (i := 300) (by decide +kernel) (by decide +kernel)
theorem tw_301 : (Cond.superclass "java/lang/Throwable" "java/lang/Object") ∈ xtt := xtt_t (i := 301) (by decide +kernel) (by decide +kernel)
theorem tw_302 : (Cond.instanceMethod ⟨"java/lang/Throwable", "<init>", "()V"⟩) ∈ xtt := xtt_t (i := 302) (by decide +kernel) (by decide +kernel)
theorem tw_303 : (Cond.code ⟨"java/lang/Throwable", "<init>", "()V"⟩ prog_20_method_1_code 1 (none : Option FieldType)) ∈ xtt := xtt_t (i := 303) (by decide +kernel) (by decide +kernel)
theorem tw_304 : (Cond.methodLink "java/lang/Throwable" 1 ⟨"java/lang/Object", "<init>", "()V"⟩) ∈ xtt := xtt_t (i := 304) (by decide +kernel) (by decide +kernel)
theorem tw_305 : (Cond.fieldLink "java/lang/Throwable" 13 "java/lang/Throwable" "UNASSIGNED_STACK" "[Ljava/lang/StackTraceElement;") ∈ xtt := xtt_t (i := 305) (by decide +kernel) (by decide +kernel)
theorem tw_307 : (Cond.fieldLink "java/lang/Throwable" 20 "java/lang/Throwable" "SUPPRESSED_SENTINEL" "Ljava/util/List;") ∈ xtt := xtt_t (i := 307) (by decide +kernel) (by decide +kernel)
theorem tw_309 : (Cond.methodLink "java/lang/Throwable" 27 ⟨"java/lang/Throwable", "fillInStackTrace", "()Ljava/lang/Throwable;"⟩) ∈ xtt := xtt_t (i := 309) (by decide +kernel) (by decide +kernel)
theorem tw_310 : (Cond.instanceMethod ⟨"java/lang/Throwable", "fillInStackTrace", "()Ljava/lang/Throwable;"⟩) ∈ xtt := xtt_t (i := 310) (by decide +kernel) (by decide +kernel)
theorem tw_312 : (Cond.selects "java/lang/IllegalStateException" ⟨"java/lang/Throwable", "fillInStackTrace", "()Ljava/lang/Throwable;"⟩ ⟨"java/lang/Throwable", "fillInStackTrace", "()Ljava/lang/Throwable;"⟩) ∈ xtt := xtt_t (i := 312) (by decide +kernel) (by decide +kernel)
theorem tw_313 : (Cond.selects "java/lang/IndexOutOfBoundsException" ⟨"java/lang/Throwable", "fillInStackTrace", "()Ljava/lang/Throwable;"⟩ ⟨"java/lang/Throwable", "fillInStackTrace", "()Ljava/lang/Throwable;"⟩) ∈ xtt := xtt_t (i := 313) (by decide +kernel) (by decide +kernel)
theorem tw_314 : (Cond.selects "java/util/NoSuchElementException" ⟨"java/lang/Throwable", "fillInStackTrace", "()Ljava/lang/Throwable;"⟩ ⟨"java/lang/Throwable", "fillInStackTrace", "()Ljava/lang/Throwable;"⟩) ∈ xtt := xtt_t (i := 314) (by decide +kernel) (by decide +kernel)
theorem tw_315 : (Cond.codeSync ⟨"java/lang/Throwable", "fillInStackTrace", "()Ljava/lang/Throwable;"⟩ prog_20_method_18_code 1 (some (.object "java/lang/Throwable"))) ∈ xtt := xtt_t (i := 315) (by decide +kernel) (by decide +kernel)
theorem tw_316 : (Cond.methodLink "java/lang/Throwable" 202 ⟨"java/lang/Throwable", "fillInStackTrace", "(I)Ljava/lang/Throwable;"⟩) ∈ xtt := xtt_t (i := 316) (by decide +kernel) (by decide +kernel)
theorem tw_318 : (Cond.instanceMethod ⟨"java/lang/Throwable", "fillInStackTrace", "(I)Ljava/lang/Throwable;"⟩) ∈ xtt := xtt_t (i := 318) (by decide +kernel) (by decide +kernel)
theorem tw_320 : (Cond.native ⟨"java/lang/Throwable", "fillInStackTrace", "(I)Ljava/lang/Throwable;"⟩) ∈ xtt := xtt_t (i := 320) (by decide +kernel) (by decide +kernel)
theorem tw_321 : (Cond.stringRef "NameMover" 53 "no class name") ∈ xtt := xtt_t (i := 321) (by decide +kernel) (by decide +kernel)
theorem tw_322 : (Cond.methodLink "NameMover" 55 ⟨"java/lang/IllegalArgumentException", "<init>", "(Ljava/lang/String;)V"⟩) ∈ xtt := xtt_t (i := 322) (by decide +kernel) (by decide +kernel)
theorem tw_323 : (Cond.instanceMethod ⟨"java/lang/IllegalArgumentException", "<init>", "(Ljava/lang/String;)V"⟩) ∈ xtt := xtt_t (i := 323) (by decide +kernel) (by decide +kernel)
theorem tw_324 : (Cond.code ⟨"java/lang/IllegalArgumentException", "<init>", "(Ljava/lang/String;)V"⟩ prog_13_method_2_code 2 (none : Option FieldType)) ∈ xtt := xtt_t (i := 324) (by decide +kernel) (by decide +kernel)
theorem tw_325 : (Cond.methodLink "java/lang/IllegalArgumentException" 7 ⟨"java/lang/RuntimeException", "<init>", "(Ljava/lang/String;)V"⟩) ∈ xtt := xtt_t (i := 325) (by decide +kernel) (by decide +kernel)
theorem tw_326 : (Cond.instanceMethod ⟨"java/lang/RuntimeException", "<init>", "(Ljava/lang/String;)V"⟩) ∈ xtt := xtt_t (i := 326) (by decide +kernel) (by decide +kernel)
theorem tw_327 : (Cond.code ⟨"java/lang/RuntimeException", "<init>", "(Ljava/lang/String;)V"⟩ prog_17_method_2_code 2 (none : Option FieldType)) ∈ xtt := xtt_t (i := 327) (by decide +kernel) (by decide +kernel)
theorem tw_328 : (Cond.methodLink "java/lang/RuntimeException" 7 ⟨"java/lang/Exception", "<init>", "(Ljava/lang/String;)V"⟩) ∈ xtt := xtt_t (i := 328) (by decide +kernel) (by decide +kernel)
theorem tw_329 : (Cond.instanceMethod ⟨"java/lang/Exception", "<init>", "(Ljava/lang/String;)V"⟩) ∈ xtt := xtt_t (i := 329) (by decide +kernel) (by decide +kernel)
theorem tw_330 : (Cond.code ⟨"java/lang/Exception", "<init>", "(Ljava/lang/String;)V"⟩ prog_12_method_2_code 2 (none : Option FieldType)) ∈ xtt := xtt_t (i := 330) (by decide +kernel) (by decide +kernel)
theorem tw_331 : (Cond.methodLink "java/lang/Exception" 7 ⟨"java/lang/Throwable", "<init>", "(Ljava/lang/String;)V"⟩) ∈ xtt := xtt_t (i := 331) (by decide +kernel) (by decide +kernel)
theorem tw_332 : (Cond.instanceMethod ⟨"java/lang/Throwable", "<init>", "(Ljava/lang/String;)V"⟩) ∈ xtt := xtt_t (i := 332) (by decide +kernel) (by decide +kernel)
theorem tw_333 : (Cond.code ⟨"java/lang/Throwable", "<init>", "(Ljava/lang/String;)V"⟩ prog_20_method_2_code 2 (none : Option FieldType)) ∈ xtt := xtt_t (i := 333) (by decide +kernel) (by decide +kernel)
theorem tw_335 : (Cond.fieldLink "java/lang/Throwable" 31 "java/lang/Throwable" "detailMessage" "Ljava/lang/String;") ∈ xtt := xtt_t (i := 335) (by decide +kernel) (by decide +kernel)
theorem tw_336 : (Cond.fieldLink "java/lang/Throwable" 7 "java/lang/Throwable" "cause" "Ljava/lang/Throwable;") ∈ xtt := xtt_t (i := 336) (by decide +kernel) (by decide +kernel)
theorem tw_337 : (Cond.fieldLink "java/lang/Throwable" 17 "java/lang/Throwable" "stackTrace" "[Ljava/lang/StackTraceElement;") ∈ xtt := xtt_t (i := 337) (by decide +kernel) (by decide +kernel)
theorem tw_338 : (Cond.fieldLink "java/lang/Throwable" 24 "java/lang/Throwable" "suppressedExceptions" "Ljava/util/List;") ∈ xtt := xtt_t (i := 338) (by decide +kernel) (by decide +kernel)
theorem tw_348 : (Cond.methodLink "NameMover" 58 ⟨"NameMover$Store", "isClass", "(I)Z"⟩) ∈ xtt := xtt_t (i := 348) (by decide +kernel) (by decide +kernel)
theorem tw_349 : (Cond.classLink "NameMover" 62 "java/lang/IndexOutOfBoundsException") ∈ xtt := xtt_t (i := 349) (by decide +kernel) (by decide +kernel)
theorem tw_350 : (Cond.instantiable "java/lang/IndexOutOfBoundsException" 6) ∈ xtt := xtt_t (i := 350) (by decide +kernel) (by decide +kernel)
theorem tw_351 : (Cond.castable "java/lang/IndexOutOfBoundsException" "java/lang/IndexOutOfBoundsException") ∈ xtt := xtt_t (i := 351) (by decide +kernel) (by decide +kernel)
theorem tw_352 : (Cond.selects "java/lang/IndexOutOfBoundsException" ⟨"java/lang/Throwable", "fillInStackTrace", "(I)Ljava/lang/Throwable;"⟩ ⟨"java/lang/Throwable", "fillInStackTrace", "(I)Ljava/lang/Throwable;"⟩) ∈ xtt := xtt_t (i := 352) (by decide +kernel) (by decide +kernel)
theorem tw_353 : (Cond.lays "java/lang/IndexOutOfBoundsException" "java/lang/Throwable" "cause" "Ljava/lang/Throwable;") ∈ xtt := xtt_t (i := 353) (by decide +kernel) (by decide +kernel)
theorem tw_354 : (Cond.lays "java/lang/IndexOutOfBoundsException" "java/lang/Throwable" "stackTrace" "[Ljava/lang/StackTraceElement;") ∈ xtt := xtt_t (i := 354) (by decide +kernel) (by decide +kernel)
theorem tw_355 : (Cond.lays "java/lang/IndexOutOfBoundsException" "java/lang/Throwable" "suppressedExceptions" "Ljava/util/List;") ∈ xtt := xtt_t (i := 355) (by decide +kernel) (by decide +kernel)
theorem tw_356 : (Cond.lays "java/lang/IndexOutOfBoundsException" "java/lang/Throwable" "detailMessage" "Ljava/lang/String;") ∈ xtt := xtt_t (i := 356) (by decide +kernel) (by decide +kernel)
theorem tw_357 : (Cond.lays "java/lang/IndexOutOfBoundsException" "java/lang/Throwable" "backtrace" "Ljava/lang/Object;") ∈ xtt := xtt_t (i := 357) (by decide +kernel) (by decide +kernel)
theorem tw_358 : (Cond.stringRef "NameMover" 64 "no such superclass") ∈ xtt := xtt_t (i := 358) (by decide +kernel) (by decide +kernel)
theorem tw_359 : (Cond.methodLink "NameMover" 66 ⟨"java/lang/IndexOutOfBoundsException", "<init>", "(Ljava/lang/String;)V"⟩) ∈ xtt := xtt_t (i := 359) (by decide +kernel) (by decide +kernel)
theorem tw_360 : (Cond.instanceMethod ⟨"java/lang/IndexOutOfBoundsException", "<init>", "(Ljava/lang/String;)V"⟩) ∈ xtt := xtt_t (i := 360) (by decide +kernel) (by decide +kernel)
theorem tw_361 : (Cond.code ⟨"java/lang/IndexOutOfBoundsException", "<init>", "(Ljava/lang/String;)V"⟩ prog_15_method_2_code 2 (none : Option FieldType)) ∈ xtt := xtt_t (i := 361) (by decide +kernel) (by decide +kernel)
theorem tw_362 : (Cond.methodLink "java/lang/IndexOutOfBoundsException" 7 ⟨"java/lang/RuntimeException", "<init>", "(Ljava/lang/String;)V"⟩) ∈ xtt := xtt_t (i := 362) (by decide +kernel) (by decide +kernel)
theorem tw_365 : (Cond.methodLink "NameMover" 67 ⟨"NameMover$Store", "isMoving", "()Z"⟩) ∈ xtt := xtt_t (i := 365) (by decide +kernel) (by decide +kernel)
theorem tw_366 : (Cond.instanceMethod ⟨"NameMover$Store", "isMoving", "()Z"⟩) ∈ xtt := xtt_t (i := 366) (by decide +kernel) (by decide +kernel)
theorem tw_367 : (Cond.selects "NameMover$Store" ⟨"NameMover$Store", "isMoving", "()Z"⟩ ⟨"NameMover$Store", "isMoving", "()Z"⟩) ∈ xtt := xtt_t (i := 367) (by decide +kernel) (by decide +kernel)
theorem tw_368 : (Cond.code ⟨"NameMover$Store", "isMoving", "()Z"⟩ prog_8_method_17_code 1 (some .boolean)) ∈ xtt := xtt_t (i := 368) (by decide +kernel) (by decide +kernel)
theorem tw_369 : (Cond.methodLink "NameMover$Store" 69 ⟨"NameMover$Store", "changedNames", "()I"⟩) ∈ xtt := xtt_t (i := 369) (by decide +kernel) (by decide +kernel)
theorem tw_370 : (Cond.methodLink "NameMover" 71 ⟨"NameMover$Store", "isFull", "()Z"⟩) ∈ xtt := xtt_t (i := 370) (by decide +kernel) (by decide +kernel)
theorem tw_371 : (Cond.instanceMethod ⟨"NameMover$Store", "isFull", "()Z"⟩) ∈ xtt := xtt_t (i := 371) (by decide +kernel) (by decide +kernel)
theorem tw_372 : (Cond.selects "NameMover$Store" ⟨"NameMover$Store", "isFull", "()Z"⟩ ⟨"NameMover$Store", "isFull", "()Z"⟩) ∈ xtt := xtt_t (i := 372) (by decide +kernel) (by decide +kernel)
theorem tw_373 : (Cond.code ⟨"NameMover$Store", "isFull", "()Z"⟩ prog_8_method_8_code 1 (some .boolean)) ∈ xtt := xtt_t (i := 373) (by decide +kernel) (by decide +kernel)
theorem tw_374 : (Cond.methodLink "NameMover" 78 ⟨"NameMover$Store", "classNamed", "(JI)I"⟩) ∈ xtt := xtt_t (i := 374) (by decide +kernel) (by decide +kernel)
theorem tw_375 : (Cond.instanceMethod ⟨"NameMover$Store", "classNamed", "(JI)I"⟩) ∈ xtt := xtt_t (i := 375) (by decide +kernel) (by decide +kernel)
theorem tw_376 : (Cond.selects "NameMover$Store" ⟨"NameMover$Store", "classNamed", "(JI)I"⟩ ⟨"NameMover$Store", "classNamed", "(JI)I"⟩) ∈ xtt := xtt_t (i := 376) (by decide +kernel) (by decide +kernel)
theorem tw_377 : (Cond.code ⟨"NameMover$Store", "classNamed", "(JI)I"⟩ prog_8_method_9_code 5 (some .int)) ∈ xtt := xtt_t (i := 377) (by decide +kernel) (by decide +kernel)
theorem tw_378 : (Cond.classLink "NameMover" 82 "java/lang/IllegalStateException") ∈ xtt := xtt_t (i := 378) (by decide +kernel) (by decide +kernel)
theorem tw_379 : (Cond.instantiable "java/lang/IllegalStateException" 6) ∈ xtt := xtt_t (i := 379) (by decide +kernel) (by decide +kernel)
theorem tw_380 : (Cond.castable "java/lang/IllegalStateException" "java/lang/IllegalStateException") ∈ xtt := xtt_t (i := 380) (by decide +kernel) (by decide +kernel)
theorem tw_381 : (Cond.selects "java/lang/IllegalStateException" ⟨"java/lang/Throwable", "fillInStackTrace", "(I)Ljava/lang/Throwable;"⟩ ⟨"java/lang/Throwable", "fillInStackTrace", "(I)Ljava/lang/Throwable;"⟩) ∈ xtt := xtt_t (i := 381) (by decide +kernel) (by decide +kernel)
theorem tw_382 : (Cond.lays "java/lang/IllegalStateException" "java/lang/Throwable" "cause" "Ljava/lang/Throwable;") ∈ xtt := xtt_t (i := 382) (by decide +kernel) (by decide +kernel)
theorem tw_383 : (Cond.lays "java/lang/IllegalStateException" "java/lang/Throwable" "stackTrace" "[Ljava/lang/StackTraceElement;") ∈ xtt := xtt_t (i := 383) (by decide +kernel) (by decide +kernel)
theorem tw_384 : (Cond.lays "java/lang/IllegalStateException" "java/lang/Throwable" "suppressedExceptions" "Ljava/util/List;") ∈ xtt := xtt_t (i := 384) (by decide +kernel) (by decide +kernel)
theorem tw_385 : (Cond.lays "java/lang/IllegalStateException" "java/lang/Throwable" "detailMessage" "Ljava/lang/String;") ∈ xtt := xtt_t (i := 385) (by decide +kernel) (by decide +kernel)
theorem tw_386 : (Cond.lays "java/lang/IllegalStateException" "java/lang/Throwable" "backtrace" "Ljava/lang/Object;") ∈ xtt := xtt_t (i := 386) (by decide +kernel) (by decide +kernel)
theorem tw_387 : (Cond.stringRef "NameMover" 84 "moving, 8 classes, or the name is taken") ∈ xtt := xtt_t (i := 387) (by decide +kernel) (by decide +kernel)
theorem tw_388 : (Cond.methodLink "NameMover" 86 ⟨"java/lang/IllegalStateException", "<init>", "(Ljava/lang/String;)V"⟩) ∈ xtt := xtt_t (i := 388) (by decide +kernel) (by decide +kernel)
theorem tw_389 : (Cond.instanceMethod ⟨"java/lang/IllegalStateException", "<init>", "(Ljava/lang/String;)V"⟩) ∈ xtt := xtt_t (i := 389) (by decide +kernel) (by decide +kernel)
theorem tw_390 : (Cond.code ⟨"java/lang/IllegalStateException", "<init>", "(Ljava/lang/String;)V"⟩ prog_14_method_2_code 2 (none : Option FieldType)) ∈ xtt := xtt_t (i := 390) (by decide +kernel) (by decide +kernel)
theorem tw_391 : (Cond.methodLink "java/lang/IllegalStateException" 7 ⟨"java/lang/RuntimeException", "<init>", "(Ljava/lang/String;)V"⟩) ∈ xtt := xtt_t (i := 391) (by decide +kernel) (by decide +kernel)
theorem tw_394 : (Cond.methodLink "NameMover" 87 ⟨"NameMover$Store", "placeClass", "(JIZ)V"⟩) ∈ xtt := xtt_t (i := 394) (by decide +kernel) (by decide +kernel)
theorem tw_395 : (Cond.instanceMethod ⟨"NameMover$Store", "placeClass", "(JIZ)V"⟩) ∈ xtt := xtt_t (i := 395) (by decide +kernel) (by decide +kernel)
theorem tw_396 : (Cond.selects "NameMover$Store" ⟨"NameMover$Store", "placeClass", "(JIZ)V"⟩ ⟨"NameMover$Store", "placeClass", "(JIZ)V"⟩) ∈ xtt := xtt_t (i := 396) (by decide +kernel) (by decide +kernel)
theorem tw_397 : (Cond.code ⟨"NameMover$Store", "placeClass", "(JIZ)V"⟩ prog_8_method_14_code 5 (none : Option FieldType)) ∈ xtt := xtt_t (i := 397) (by decide +kernel) (by decide +kernel)
theorem tw_398 : (Cond.methodLink "NameMover" 91 ⟨"NameMover$Store", "countPlacedClass", "()I"⟩) ∈ xtt := xtt_t (i := 398) (by decide +kernel) (by decide +kernel)
theorem tw_399 : (Cond.instanceMethod ⟨"NameMover$Store", "countPlacedClass", "()I"⟩) ∈ xtt := xtt_t (i := 399) (by decide +kernel) (by decide +kernel)
theorem tw_400 : (Cond.selects "NameMover$Store" ⟨"NameMover$Store", "countPlacedClass", "()I"⟩ ⟨"NameMover$Store", "countPlacedClass", "()I"⟩) ∈ xtt := xtt_t (i := 400) (by decide +kernel) (by decide +kernel)
theorem tw_401 : (Cond.code ⟨"NameMover$Store", "countPlacedClass", "()I"⟩ prog_8_method_15_code 1 (some .int)) ∈ xtt := xtt_t (i := 401) (by decide +kernel) (by decide +kernel)
theorem tw_402 : (Cond.methodLink "NameMoverLaw" 82 ⟨"NameMoverLaw", "member", "(LNameMover;IJJZ[J)I"⟩) ∈ xtt := xtt_t (i := 402) (by decide +kernel) (by decide +kernel)
theorem tw_403 : (Cond.static ⟨"NameMoverLaw", "member", "(LNameMover;IJJZ[J)I"⟩) ∈ xtt := xtt_t (i := 403) (by decide +kernel) (by decide +kernel)
theorem tw_404 : (Cond.codeWith ⟨"NameMoverLaw", "member", "(LNameMover;IJJZ[J)I"⟩ method_4_code 9 (some .int) [(0, 15, 18, 15), (0, 15, 22, 13), (0, 15, 26, 17)]) ∈ xtt := xtt_t (i := 404) (by decide +kernel) (by decide +kernel)
theorem tw_405 : (Cond.methodLink "NameMoverLaw" 19 ⟨"NameMover", "member", "(IJJZ)I"⟩) ∈ xtt := xtt_t (i := 405) (by decide +kernel) (by decide +kernel)
theorem tw_406 : (Cond.instanceMethod ⟨"NameMover", "member", "(IJJZ)I"⟩) ∈ xtt := xtt_t (i := 406) (by decide +kernel) (by decide +kernel)
theorem tw_407 : (Cond.selects "NameMover" ⟨"NameMover", "member", "(IJJZ)I"⟩ ⟨"NameMover", "member", "(IJJZ)I"⟩) ∈ xtt := xtt_t (i := 407) (by decide +kernel) (by decide +kernel)
theorem tw_408 : (Cond.code ⟨"NameMover", "member", "(IJJZ)I"⟩ prog_1_method_3_code 7 (some .int)) ∈ xtt := xtt_t (i := 408) (by decide +kernel) (by decide +kernel)
theorem tw_409 : (Cond.methodLink "NameMover" 95 ⟨"NameMover", "requireClass", "(I)V"⟩) ∈ xtt := xtt_t (i := 409) (by decide +kernel) (by decide +kernel)
theorem tw_411 : (Cond.instanceMethod ⟨"NameMover", "requireClass", "(I)V"⟩) ∈ xtt := xtt_t (i := 411) (by decide +kernel) (by decide +kernel)
theorem tw_412 : (Cond.code ⟨"NameMover", "requireClass", "(I)V"⟩ prog_1_method_19_code 2 (none : Option FieldType)) ∈ xtt := xtt_t (i := 412) (by decide +kernel) (by decide +kernel)
theorem tw_413 : (Cond.stringRef "NameMover" 217 "no such class") ∈ xtt := xtt_t (i := 413) (by decide +kernel) (by decide +kernel)
theorem tw_414 : (Cond.methodLink "NameMover" 99 ⟨"NameMover$Text", "isIdentifier", "(J)Z"⟩) ∈ xtt := xtt_t (i := 414) (by decide +kernel) (by decide +kernel)
theorem tw_415 : (Cond.static ⟨"NameMover$Text", "isIdentifier", "(J)Z"⟩) ∈ xtt := xtt_t (i := 415) (by decide +kernel) (by decide +kernel)
theorem tw_416 : (Cond.code ⟨"NameMover$Text", "isIdentifier", "(J)Z"⟩ prog_9_method_6_code 2 (some .boolean)) ∈ xtt := xtt_t (i := 416) (by decide +kernel) (by decide +kernel)
theorem tw_417 : (Cond.methodLink "NameMover$Text" 24 ⟨"NameMover$Text", "isClassName", "(J)Z"⟩) ∈ xtt := xtt_t (i := 417) (by decide +kernel) (by decide +kernel)
theorem tw_418 : (Cond.methodLink "NameMover" 102 ⟨"NameMover$Descriptor", "isOne", "(JI)Z"⟩) ∈ xtt := xtt_t (i := 418) (by decide +kernel) (by decide +kernel)
theorem tw_419 : (Cond.static ⟨"NameMover$Descriptor", "isOne", "(JI)Z"⟩) ∈ xtt := xtt_t (i := 419) (by decide +kernel) (by decide +kernel)
theorem tw_420 : (Cond.code ⟨"NameMover$Descriptor", "isOne", "(JI)Z"⟩ prog_5_method_2_code 5 (some .boolean)) ∈ xtt := xtt_t (i := 420) (by decide +kernel) (by decide +kernel)
theorem tw_421 : (Cond.methodLink "NameMover$Descriptor" 7 ⟨"NameMover$Text", "length", "(J)I"⟩) ∈ xtt := xtt_t (i := 421) (by decide +kernel) (by decide +kernel)
theorem tw_422 : (Cond.methodLink "NameMover$Descriptor" 13 ⟨"NameMover$Descriptor", "isMethod", "(J)Z"⟩) ∈ xtt := xtt_t (i := 422) (by decide +kernel) (by decide +kernel)
theorem tw_423 : (Cond.static ⟨"NameMover$Descriptor", "isMethod", "(J)Z"⟩) ∈ xtt := xtt_t (i := 423) (by decide +kernel) (by decide +kernel)
theorem tw_424 : (Cond.code ⟨"NameMover$Descriptor", "isMethod", "(J)Z"⟩ prog_5_method_3_code 2 (some .boolean)) ∈ xtt := xtt_t (i := 424) (by decide +kernel) (by decide +kernel)
theorem tw_425 : (Cond.methodLink "NameMover$Descriptor" 27 ⟨"NameMover$Text", "charAt", "(JI)I"⟩) ∈ xtt := xtt_t (i := 425) (by decide +kernel) (by decide +kernel)
theorem tw_426 : (Cond.methodLink "NameMover$Descriptor" 19 ⟨"NameMover$Descriptor", "behindType", "(JII)I"⟩) ∈ xtt := xtt_t (i := 426) (by decide +kernel) (by decide +kernel)
theorem tw_427 : (Cond.static ⟨"NameMover$Descriptor", "behindType", "(JII)I"⟩) ∈ xtt := xtt_t (i := 427) (by decide +kernel) (by decide +kernel)
theorem tw_428 : (Cond.code ⟨"NameMover$Descriptor", "behindType", "(JII)I"⟩ prog_5_method_6_code 7 (some .int)) ∈ xtt := xtt_t (i := 428) (by decide +kernel) (by decide +kernel)
theorem tw_429 : (Cond.methodLink "NameMover$Descriptor" 30 ⟨"NameMover$Descriptor", "isClassDigit", "(II)Z"⟩) ∈ xtt := xtt_t (i := 429) (by decide +kernel) (by decide +kernel)
theorem tw_430 : (Cond.static ⟨"NameMover$Descriptor", "isClassDigit", "(II)Z"⟩) ∈ xtt := xtt_t (i := 430) (by decide +kernel) (by decide +kernel)
theorem tw_431 : (Cond.code ⟨"NameMover$Descriptor", "isClassDigit", "(II)Z"⟩ prog_5_method_4_code 2 (some .boolean)) ∈ xtt := xtt_t (i := 431) (by decide +kernel) (by decide +kernel)
theorem tw_432 : (Cond.methodLink "NameMover$Descriptor" 23 ⟨"NameMover$Descriptor", "behindParameters", "(JI)I"⟩) ∈ xtt := xtt_t (i := 432) (by decide +kernel) (by decide +kernel)
theorem tw_433 : (Cond.static ⟨"NameMover$Descriptor", "behindParameters", "(JI)I"⟩) ∈ xtt := xtt_t (i := 433) (by decide +kernel) (by decide +kernel)
theorem tw_434 : (Cond.code ⟨"NameMover$Descriptor", "behindParameters", "(JI)I"⟩ prog_5_method_5_code 5 (some .int)) ∈ xtt := xtt_t (i := 434) (by decide +kernel) (by decide +kernel)
theorem tw_435 : (Cond.stringRef "NameMover" 108 "no identifier or no descriptor") ∈ xtt := xtt_t (i := 435) (by decide +kernel) (by decide +kernel)
theorem tw_436 : (Cond.methodLink "NameMover" 110 ⟨"NameMover$Store", "hasRoomFor", "(IJJ)Z"⟩) ∈ xtt := xtt_t (i := 436) (by decide +kernel) (by decide +kernel)
theorem tw_437 : (Cond.instanceMethod ⟨"NameMover$Store", "hasRoomFor", "(IJJ)Z"⟩) ∈ xtt := xtt_t (i := 437) (by decide +kernel) (by decide +kernel)
theorem tw_438 : (Cond.selects "NameMover$Store" ⟨"NameMover$Store", "hasRoomFor", "(IJJ)Z"⟩ ⟨"NameMover$Store", "hasRoomFor", "(IJJ)Z"⟩) ∈ xtt := xtt_t (i := 438) (by decide +kernel) (by decide +kernel)
theorem tw_439 : (Cond.code ⟨"NameMover$Store", "hasRoomFor", "(IJJ)Z"⟩ prog_8_method_13_code 6 (some .boolean)) ∈ xtt := xtt_t (i := 439) (by decide +kernel) (by decide +kernel)
theorem tw_440 : (Cond.methodLink "NameMover$Store" 65 ⟨"NameMover$Store", "ownMember", "(IJJ)I"⟩) ∈ xtt := xtt_t (i := 440) (by decide +kernel) (by decide +kernel)
theorem tw_441 : (Cond.instanceMethod ⟨"NameMover$Store", "ownMember", "(IJJ)I"⟩) ∈ xtt := xtt_t (i := 441) (by decide +kernel) (by decide +kernel)
theorem tw_442 : (Cond.selects "NameMover$Store" ⟨"NameMover$Store", "ownMember", "(IJJ)I"⟩ ⟨"NameMover$Store", "ownMember", "(IJJ)I"⟩) ∈ xtt := xtt_t (i := 442) (by decide +kernel) (by decide +kernel)
theorem tw_443 : (Cond.code ⟨"NameMover$Store", "ownMember", "(IJJ)I"⟩ prog_8_method_10_code 8 (some .int)) ∈ xtt := xtt_t (i := 443) (by decide +kernel) (by decide +kernel)
theorem tw_444 : (Cond.methodLink "NameMover$Store" 58 ⟨"NameMover$Store", "number", "(II)I"⟩) ∈ xtt := xtt_t (i := 444) (by decide +kernel) (by decide +kernel)
theorem tw_445 : (Cond.static ⟨"NameMover$Store", "number", "(II)I"⟩) ∈ xtt := xtt_t (i := 445) (by decide +kernel) (by decide +kernel)
theorem tw_446 : (Cond.code ⟨"NameMover$Store", "number", "(II)I"⟩ prog_8_method_2_code 2 (some .int)) ∈ xtt := xtt_t (i := 446) (by decide +kernel) (by decide +kernel)
theorem tw_447 : (Cond.stringRef "NameMover" 114 "moving, 6 members, or there is such a member") ∈ xtt := xtt_t (i := 447) (by decide +kernel) (by decide +kernel)
theorem tw_448 : (Cond.methodLink "NameMover" 116 ⟨"NameMover$Store", "placeMember", "(IJJZ)I"⟩) ∈ xtt := xtt_t (i := 448) (by decide +kernel) (by decide +kernel)
theorem tw_449 : (Cond.instanceMethod ⟨"NameMover$Store", "placeMember", "(IJJZ)I"⟩) ∈ xtt := xtt_t (i := 449) (by decide +kernel) (by decide +kernel)
theorem tw_450 : (Cond.selects "NameMover$Store" ⟨"NameMover$Store", "placeMember", "(IJJZ)I"⟩ ⟨"NameMover$Store", "placeMember", "(IJJZ)I"⟩) ∈ xtt := xtt_t (i := 450) (by decide +kernel) (by decide +kernel)
theorem tw_451 : (Cond.code ⟨"NameMover$Store", "placeMember", "(IJJZ)I"⟩ prog_8_method_16_code 9 (some .int)) ∈ xtt := xtt_t (i := 451) (by decide +kernel) (by decide +kernel)
theorem tw_452 : (Cond.methodLink "NameMoverLaw" 86 ⟨"NameMoverLaw", "moveClass", "(LNameMover;IJ)I"⟩) ∈ xtt := xtt_t (i := 452) (by decide +kernel) (by decide +kernel)
theorem tw_453 : (Cond.static ⟨"NameMoverLaw", "moveClass", "(LNameMover;IJ)I"⟩) ∈ xtt := xtt_t (i := 453) (by decide +kernel) (by decide +kernel)
theorem tw_454 : (Cond.codeWith ⟨"NameMoverLaw", "moveClass", "(LNameMover;IJ)I"⟩ method_5_code 5 (some .int) [(0, 6, 9, 15), (0, 6, 13, 13)]) ∈ xtt := xtt_t (i := 454) (by decide +kernel) (by decide +kernel)
theorem tw_455 : (Cond.methodLink "NameMoverLaw" 23 ⟨"NameMover", "moveClass", "(IJ)V"⟩) ∈ xtt := xtt_t (i := 455) (by decide +kernel) (by decide +kernel)
theorem tw_456 : (Cond.instanceMethod ⟨"NameMover", "moveClass", "(IJ)V"⟩) ∈ xtt := xtt_t (i := 456) (by decide +kernel) (by decide +kernel)
theorem tw_457 : (Cond.selects "NameMover" ⟨"NameMover", "moveClass", "(IJ)V"⟩ ⟨"NameMover", "moveClass", "(IJ)V"⟩) ∈ xtt := xtt_t (i := 457) (by decide +kernel) (by decide +kernel)
theorem tw_458 : (Cond.code ⟨"NameMover", "moveClass", "(IJ)V"⟩ prog_1_method_4_code 4 (none : Option FieldType)) ∈ xtt := xtt_t (i := 458) (by decide +kernel) (by decide +kernel)
theorem tw_459 : (Cond.methodLink "NameMoverLaw" 90 ⟨"NameMoverLaw", "movePackage", "(LNameMover;JJ[J)I"⟩) ∈ xtt := xtt_t (i := 459) (by decide +kernel) (by decide +kernel)
theorem tw_460 : (Cond.static ⟨"NameMoverLaw", "movePackage", "(LNameMover;JJ[J)I"⟩) ∈ xtt := xtt_t (i := 460) (by decide +kernel) (by decide +kernel)
theorem tw_461 : (Cond.codeWith ⟨"NameMoverLaw", "movePackage", "(LNameMover;JJ[J)I"⟩ method_6_code 7 (some .int) [(0, 11, 14, 13)]) ∈ xtt := xtt_t (i := 461) (by decide +kernel) (by decide +kernel)
theorem tw_462 : (Cond.methodLink "NameMoverLaw" 27 ⟨"NameMover", "movePackage", "(JJ)I"⟩) ∈ xtt := xtt_t (i := 462) (by decide +kernel) (by decide +kernel)
theorem tw_463 : (Cond.instanceMethod ⟨"NameMover", "movePackage", "(JJ)I"⟩) ∈ xtt := xtt_t (i := 463) (by decide +kernel) (by decide +kernel)
theorem tw_464 : (Cond.selects "NameMover" ⟨"NameMover", "movePackage", "(JJ)I"⟩ ⟨"NameMover", "movePackage", "(JJ)I"⟩) ∈ xtt := xtt_t (i := 464) (by decide +kernel) (by decide +kernel)
theorem tw_465 : (Cond.code ⟨"NameMover", "movePackage", "(JJ)I"⟩ prog_1_method_5_code 5 (some .int)) ∈ xtt := xtt_t (i := 465) (by decide +kernel) (by decide +kernel)
theorem tw_466 : (Cond.methodLink "NameMover" 124 ⟨"NameMover$Text", "isPackage", "(J)Z"⟩) ∈ xtt := xtt_t (i := 466) (by decide +kernel) (by decide +kernel)
theorem tw_467 : (Cond.static ⟨"NameMover$Text", "isPackage", "(J)Z"⟩) ∈ xtt := xtt_t (i := 467) (by decide +kernel) (by decide +kernel)
theorem tw_468 : (Cond.code ⟨"NameMover$Text", "isPackage", "(J)Z"⟩ prog_9_method_7_code 2 (some .boolean)) ∈ xtt := xtt_t (i := 468) (by decide +kernel) (by decide +kernel)
theorem tw_469 : (Cond.methodLink "NameMover" 127 ⟨"NameMover$Store", "fitsPackage", "(JJ)Z"⟩) ∈ xtt := xtt_t (i := 469) (by decide +kernel) (by decide +kernel)
theorem tw_470 : (Cond.instanceMethod ⟨"NameMover$Store", "fitsPackage", "(JJ)Z"⟩) ∈ xtt := xtt_t (i := 470) (by decide +kernel) (by decide +kernel)
theorem tw_471 : (Cond.selects "NameMover$Store" ⟨"NameMover$Store", "fitsPackage", "(JJ)Z"⟩ ⟨"NameMover$Store", "fitsPackage", "(JJ)Z"⟩) ∈ xtt := xtt_t (i := 471) (by decide +kernel) (by decide +kernel)
theorem tw_472 : (Cond.code ⟨"NameMover$Store", "fitsPackage", "(JJ)Z"⟩ prog_8_method_21_code 6 (some .boolean)) ∈ xtt := xtt_t (i := 472) (by decide +kernel) (by decide +kernel)
theorem tw_473 : (Cond.methodLink "NameMover$Store" 85 ⟨"NameMover$Store", "goesWithPackage", "(IJ)Z"⟩) ∈ xtt := xtt_t (i := 473) (by decide +kernel) (by decide +kernel)
theorem tw_475 : (Cond.instanceMethod ⟨"NameMover$Store", "goesWithPackage", "(IJ)Z"⟩) ∈ xtt := xtt_t (i := 475) (by decide +kernel) (by decide +kernel)
theorem tw_476 : (Cond.code ⟨"NameMover$Store", "goesWithPackage", "(IJ)Z"⟩ prog_8_method_23_code 4 (some .boolean)) ∈ xtt := xtt_t (i := 476) (by decide +kernel) (by decide +kernel)
theorem tw_477 : (Cond.methodLink "NameMover$Store" 95 ⟨"NameMover$Text", "packageOf", "(J)J"⟩) ∈ xtt := xtt_t (i := 477) (by decide +kernel) (by decide +kernel)
theorem tw_478 : (Cond.methodLink "NameMover$Store" 89 ⟨"NameMover$Text", "inPackage", "(JJ)J"⟩) ∈ xtt := xtt_t (i := 478) (by decide +kernel) (by decide +kernel)
theorem tw_479 : (Cond.static ⟨"NameMover$Text", "inPackage", "(JJ)J"⟩) ∈ xtt := xtt_t (i := 479) (by decide +kernel) (by decide +kernel)
theorem tw_480 : (Cond.code ⟨"NameMover$Text", "inPackage", "(JJ)J"⟩ prog_9_method_9_code 7 (some .long)) ∈ xtt := xtt_t (i := 480) (by decide +kernel) (by decide +kernel)
theorem tw_481 : (Cond.methodLink "NameMover$Text" 31 ⟨"NameMover$Text", "lastIdentifier", "(J)J"⟩) ∈ xtt := xtt_t (i := 481) (by decide +kernel) (by decide +kernel)
theorem tw_482 : (Cond.static ⟨"NameMover$Text", "lastIdentifier", "(J)J"⟩) ∈ xtt := xtt_t (i := 482) (by decide +kernel) (by decide +kernel)
theorem tw_483 : (Cond.code ⟨"NameMover$Text", "lastIdentifier", "(J)J"⟩ prog_9_method_10_code 3 (some .long)) ∈ xtt := xtt_t (i := 483) (by decide +kernel) (by decide +kernel)
theorem tw_484 : (Cond.methodLink "NameMover$Text" 35 ⟨"NameMover$Text", "placed", "(II)J"⟩) ∈ xtt := xtt_t (i := 484) (by decide +kernel) (by decide +kernel)
theorem tw_485 : (Cond.static ⟨"NameMover$Text", "placed", "(II)J"⟩) ∈ xtt := xtt_t (i := 485) (by decide +kernel) (by decide +kernel)
theorem tw_486 : (Cond.code ⟨"NameMover$Text", "placed", "(II)J"⟩ prog_9_method_3_code 2 (some .long)) ∈ xtt := xtt_t (i := 486) (by decide +kernel) (by decide +kernel)
theorem tw_487 : (Cond.stringRef "NameMover" 131 "no package, or a new name would be too long") ∈ xtt := xtt_t (i := 487) (by decide +kernel) (by decide +kernel)
theorem tw_488 : (Cond.methodLink "NameMover" 133 ⟨"NameMover$Store", "renamePackage", "(JJ)I"⟩) ∈ xtt := xtt_t (i := 488) (by decide +kernel) (by decide +kernel)
theorem tw_489 : (Cond.instanceMethod ⟨"NameMover$Store", "renamePackage", "(JJ)I"⟩) ∈ xtt := xtt_t (i := 489) (by decide +kernel) (by decide +kernel)
theorem tw_490 : (Cond.selects "NameMover$Store" ⟨"NameMover$Store", "renamePackage", "(JJ)I"⟩ ⟨"NameMover$Store", "renamePackage", "(JJ)I"⟩) ∈ xtt := xtt_t (i := 490) (by decide +kernel) (by decide +kernel)
theorem tw_491 : (Cond.code ⟨"NameMover$Store", "renamePackage", "(JJ)I"⟩ prog_8_method_22_code 7 (some .int)) ∈ xtt := xtt_t (i := 491) (by decide +kernel) (by decide +kernel)
theorem tw_492 : (Cond.methodLink "NameMoverLaw" 94 ⟨"NameMoverLaw", "moveMember", "(LNameMover;IIJ[J)I"⟩) ∈ xtt := xtt_t (i := 492) (by decide +kernel) (by decide +kernel)
theorem tw_493 : (Cond.static ⟨"NameMoverLaw", "moveMember", "(LNameMover;IIJ[J)I"⟩) ∈ xtt := xtt_t (i := 493) (by decide +kernel) (by decide +kernel)
theorem tw_494 : (Cond.codeWith ⟨"NameMoverLaw", "moveMember", "(LNameMover;IIJ[J)I"⟩ method_7_code 7 (some .int) [(0, 12, 15, 15), (0, 12, 19, 13)]) ∈ xtt := xtt_t (i := 494) (by decide +kernel) (by decide +kernel)
theorem tw_495 : (Cond.methodLink "NameMoverLaw" 31 ⟨"NameMover", "moveMember", "(IIJ)I"⟩) ∈ xtt := xtt_t (i := 495) (by decide +kernel) (by decide +kernel)
theorem tw_496 : (Cond.instanceMethod ⟨"NameMover", "moveMember", "(IIJ)I"⟩) ∈ xtt := xtt_t (i := 496) (by decide +kernel) (by decide +kernel)
theorem tw_497 : (Cond.selects "NameMover" ⟨"NameMover", "moveMember", "(IIJ)I"⟩ ⟨"NameMover", "moveMember", "(IIJ)I"⟩) ∈ xtt := xtt_t (i := 497) (by decide +kernel) (by decide +kernel)
theorem tw_498 : (Cond.code ⟨"NameMover", "moveMember", "(IIJ)I"⟩ prog_1_method_6_code 5 (some .int)) ∈ xtt := xtt_t (i := 498) (by decide +kernel) (by decide +kernel)
theorem tw_499 : (Cond.methodLink "NameMover" 137 ⟨"NameMover", "requireMember", "(II)V"⟩) ∈ xtt := xtt_t (i := 499) (by decide +kernel) (by decide +kernel)
theorem tw_501 : (Cond.instanceMethod ⟨"NameMover", "requireMember", "(II)V"⟩) ∈ xtt := xtt_t (i := 501) (by decide +kernel) (by decide +kernel)
theorem tw_502 : (Cond.code ⟨"NameMover", "requireMember", "(II)V"⟩ prog_1_method_20_code 3 (none : Option FieldType)) ∈ xtt := xtt_t (i := 502) (by decide +kernel) (by decide +kernel)
theorem tw_503 : (Cond.methodLink "NameMover" 219 ⟨"NameMover$Store", "isMember", "(II)Z"⟩) ∈ xtt := xtt_t (i := 503) (by decide +kernel) (by decide +kernel)
theorem tw_504 : (Cond.stringRef "NameMover" 183 "no such member") ∈ xtt := xtt_t (i := 504) (by decide +kernel) (by decide +kernel)
theorem tw_505 : (Cond.stringRef "NameMover" 141 "no identifier") ∈ xtt := xtt_t (i := 505) (by decide +kernel) (by decide +kernel)
theorem tw_506 : (Cond.methodLink "NameMover" 143 ⟨"NameMover$Store", "number", "(II)I"⟩) ∈ xtt := xtt_t (i := 506) (by decide +kernel) (by decide +kernel)
theorem tw_507 : (Cond.methodLink "NameMover" 147 ⟨"NameMover$Store", "renameFamily", "(IJ)I"⟩) ∈ xtt := xtt_t (i := 507) (by decide +kernel) (by decide +kernel)
theorem tw_508 : (Cond.instanceMethod ⟨"NameMover$Store", "renameFamily", "(IJ)I"⟩) ∈ xtt := xtt_t (i := 508) (by decide +kernel) (by decide +kernel)
theorem tw_509 : (Cond.selects "NameMover$Store" ⟨"NameMover$Store", "renameFamily", "(IJ)I"⟩ ⟨"NameMover$Store", "renameFamily", "(IJ)I"⟩) ∈ xtt := xtt_t (i := 509) (by decide +kernel) (by decide +kernel)
theorem tw_510 : (Cond.code ⟨"NameMover$Store", "renameFamily", "(IJ)I"⟩ prog_8_method_24_code 6 (some .int)) ∈ xtt := xtt_t (i := 510) (by decide +kernel) (by decide +kernel)
theorem tw_511 : (Cond.methodLink "NameMover$Store" 99 ⟨"NameMover$Store", "inOneFamily", "(II)Z"⟩) ∈ xtt := xtt_t (i := 511) (by decide +kernel) (by decide +kernel)
theorem tw_513 : (Cond.instanceMethod ⟨"NameMover$Store", "inOneFamily", "(II)Z"⟩) ∈ xtt := xtt_t (i := 513) (by decide +kernel) (by decide +kernel)
theorem tw_514 : (Cond.code ⟨"NameMover$Store", "inOneFamily", "(II)Z"⟩ prog_8_method_25_code 3 (some .boolean)) ∈ xtt := xtt_t (i := 514) (by decide +kernel) (by decide +kernel)
theorem tw_515 : (Cond.methodLink "NameMover$Store" 102 ⟨"NameMover$Store", "canOverride", "(I)Z"⟩) ∈ xtt := xtt_t (i := 515) (by decide +kernel) (by decide +kernel)
theorem tw_517 : (Cond.instanceMethod ⟨"NameMover$Store", "canOverride", "(I)Z"⟩) ∈ xtt := xtt_t (i := 517) (by decide +kernel) (by decide +kernel)
theorem tw_518 : (Cond.code ⟨"NameMover$Store", "canOverride", "(I)Z"⟩ prog_8_method_26_code 2 (some .boolean)) ∈ xtt := xtt_t (i := 518) (by decide +kernel) (by decide +kernel)
theorem tw_519 : (Cond.methodLink "NameMover$Store" 108 ⟨"NameMover$Descriptor", "isMethod", "(J)Z"⟩) ∈ xtt := xtt_t (i := 519) (by decide +kernel) (by decide +kernel)
theorem tw_520 : (Cond.methodLink "NameMover$Store" 105 ⟨"NameMover$Store", "familyTop", "(I)I"⟩) ∈ xtt := xtt_t (i := 520) (by decide +kernel) (by decide +kernel)
theorem tw_522 : (Cond.instanceMethod ⟨"NameMover$Store", "familyTop", "(I)I"⟩) ∈ xtt := xtt_t (i := 522) (by decide +kernel) (by decide +kernel)
theorem tw_523 : (Cond.code ⟨"NameMover$Store", "familyTop", "(I)I"⟩ prog_8_method_27_code 5 (some .int)) ∈ xtt := xtt_t (i := 523) (by decide +kernel) (by decide +kernel)
theorem tw_524 : (Cond.methodLink "NameMover$Store" 62 ⟨"NameMover$Store", "isSameOrAncestor", "(II)Z"⟩) ∈ xtt := xtt_t (i := 524) (by decide +kernel) (by decide +kernel)
theorem tw_525 : (Cond.methodLink "NameMoverLaw" 102 ⟨"NameMoverLaw", "apply", "(LNameMover;[J)I"⟩) ∈ xtt := xtt_t (i := 525) (by decide +kernel) (by decide +kernel)
theorem tw_526 : (Cond.static ⟨"NameMoverLaw", "apply", "(LNameMover;[J)I"⟩) ∈ xtt := xtt_t (i := 526) (by decide +kernel) (by decide +kernel)
theorem tw_527 : (Cond.codeWith ⟨"NameMoverLaw", "apply", "(LNameMover;[J)I"⟩ method_8_code 3 (some .int) [(0, 8, 11, 17)]) ∈ xtt := xtt_t (i := 527) (by decide +kernel) (by decide +kernel)
theorem tw_528 : (Cond.methodLink "NameMoverLaw" 35 ⟨"NameMover", "apply", "()I"⟩) ∈ xtt := xtt_t (i := 528) (by decide +kernel) (by decide +kernel)
theorem tw_529 : (Cond.instanceMethod ⟨"NameMover", "apply", "()I"⟩) ∈ xtt := xtt_t (i := 529) (by decide +kernel) (by decide +kernel)
theorem tw_530 : (Cond.selects "NameMover" ⟨"NameMover", "apply", "()I"⟩ ⟨"NameMover", "apply", "()I"⟩) ∈ xtt := xtt_t (i := 530) (by decide +kernel) (by decide +kernel)
theorem tw_531 : (Cond.code ⟨"NameMover", "apply", "()I"⟩ prog_1_method_8_code 2 (some .int)) ∈ xtt := xtt_t (i := 531) (by decide +kernel) (by decide +kernel)
theorem tw_532 : (Cond.stringRef "NameMover" 157 "there is a problem") ∈ xtt := xtt_t (i := 532) (by decide +kernel) (by decide +kernel)
theorem tw_533 : (Cond.methodLink "NameMover" 162 ⟨"NameMover$Store", "takeNewNames", "()V"⟩) ∈ xtt := xtt_t (i := 533) (by decide +kernel) (by decide +kernel)
theorem tw_534 : (Cond.instanceMethod ⟨"NameMover$Store", "takeNewNames", "()V"⟩) ∈ xtt := xtt_t (i := 534) (by decide +kernel) (by decide +kernel)
theorem tw_535 : (Cond.selects "NameMover$Store" ⟨"NameMover$Store", "takeNewNames", "()V"⟩ ⟨"NameMover$Store", "takeNewNames", "()V"⟩) ∈ xtt := xtt_t (i := 535) (by decide +kernel) (by decide +kernel)
theorem tw_536 : (Cond.code ⟨"NameMover$Store", "takeNewNames", "()V"⟩ prog_8_method_19_code 1 (none : Option FieldType)) ∈ xtt := xtt_t (i := 536) (by decide +kernel) (by decide +kernel)
theorem tw_537 : (Cond.methodLink "NameMoverLaw" 114 ⟨"NameMoverLaw", "className", "(LNameMover;IZ[J)I"⟩) ∈ xtt := xtt_t (i := 537) (by decide +kernel) (by decide +kernel)
theorem tw_538 : (Cond.static ⟨"NameMoverLaw", "className", "(LNameMover;IZ[J)I"⟩) ∈ xtt := xtt_t (i := 538) (by decide +kernel) (by decide +kernel)
theorem tw_539 : (Cond.codeWith ⟨"NameMoverLaw", "className", "(LNameMover;IZ[J)I"⟩ method_9_code 5 (some .int) [(0, 9, 12, 15)]) ∈ xtt := xtt_t (i := 539) (by decide +kernel) (by decide +kernel)
theorem tw_540 : (Cond.methodLink "NameMoverLaw" 39 ⟨"NameMover", "className", "(IZ)J"⟩) ∈ xtt := xtt_t (i := 540) (by decide +kernel) (by decide +kernel)
theorem tw_541 : (Cond.instanceMethod ⟨"NameMover", "className", "(IZ)J"⟩) ∈ xtt := xtt_t (i := 541) (by decide +kernel) (by decide +kernel)
theorem tw_542 : (Cond.selects "NameMover" ⟨"NameMover", "className", "(IZ)J"⟩ ⟨"NameMover", "className", "(IZ)J"⟩) ∈ xtt := xtt_t (i := 542) (by decide +kernel) (by decide +kernel)
theorem tw_543 : (Cond.code ⟨"NameMover", "className", "(IZ)J"⟩ prog_1_method_11_code 3 (some .long)) ∈ xtt := xtt_t (i := 543) (by decide +kernel) (by decide +kernel)
theorem tw_544 : (Cond.methodLink "NameMoverLaw" 118 ⟨"NameMoverLaw", "memberName", "(LNameMover;IIZ[J)I"⟩) ∈ xtt := xtt_t (i := 544) (by decide +kernel) (by decide +kernel)
theorem tw_545 : (Cond.static ⟨"NameMoverLaw", "memberName", "(LNameMover;IIZ[J)I"⟩) ∈ xtt := xtt_t (i := 545) (by decide +kernel) (by decide +kernel)
theorem tw_546 : (Cond.codeWith ⟨"NameMoverLaw", "memberName", "(LNameMover;IIZ[J)I"⟩ method_10_code 6 (some .int) [(0, 11, 14, 15)]) ∈ xtt := xtt_t (i := 546) (by decide +kernel) (by decide +kernel)
theorem tw_547 : (Cond.methodLink "NameMoverLaw" 43 ⟨"NameMover", "memberName", "(IIZ)J"⟩) ∈ xtt := xtt_t (i := 547) (by decide +kernel) (by decide +kernel)
theorem tw_548 : (Cond.instanceMethod ⟨"NameMover", "memberName", "(IIZ)J"⟩) ∈ xtt := xtt_t (i := 548) (by decide +kernel) (by decide +kernel)
theorem tw_549 : (Cond.selects "NameMover" ⟨"NameMover", "memberName", "(IIZ)J"⟩ ⟨"NameMover", "memberName", "(IIZ)J"⟩) ∈ xtt := xtt_t (i := 549) (by decide +kernel) (by decide +kernel)
theorem tw_550 : (Cond.code ⟨"NameMover", "memberName", "(IIZ)J"⟩ prog_1_method_12_code 5 (some .long)) ∈ xtt := xtt_t (i := 550) (by decide +kernel) (by decide +kernel)
theorem tw_551 : (Cond.methodLink "NameMoverLaw" 122 ⟨"NameMoverLaw", "find", "(LNameMover;IJJ[J)I"⟩) ∈ xtt := xtt_t (i := 551) (by decide +kernel) (by decide +kernel)
theorem tw_552 : (Cond.static ⟨"NameMoverLaw", "find", "(LNameMover;IJJ[J)I"⟩) ∈ xtt := xtt_t (i := 552) (by decide +kernel) (by decide +kernel)
theorem tw_553 : (Cond.codeWith ⟨"NameMoverLaw", "find", "(LNameMover;IJJ[J)I"⟩ method_11_code 8 (some .int) [(0, 13, 16, 15), (0, 13, 20, 51)]) ∈ xtt := xtt_t (i := 553) (by decide +kernel) (by decide +kernel)
theorem tw_554 : (Cond.classLink "NameMoverLaw" 51 "java/util/NoSuchElementException") ∈ xtt := xtt_t (i := 554) (by decide +kernel) (by decide +kernel)
theorem tw_555 : (Cond.methodLink "NameMoverLaw" 47 ⟨"NameMover", "find", "(IJJ)I"⟩) ∈ xtt := xtt_t (i := 555) (by decide +kernel) (by decide +kernel)
theorem tw_556 : (Cond.instanceMethod ⟨"NameMover", "find", "(IJJ)I"⟩) ∈ xtt := xtt_t (i := 556) (by decide +kernel) (by decide +kernel)
theorem tw_557 : (Cond.selects "NameMover" ⟨"NameMover", "find", "(IJJ)I"⟩ ⟨"NameMover", "find", "(IJJ)I"⟩) ∈ xtt := xtt_t (i := 557) (by decide +kernel) (by decide +kernel)
theorem tw_558 : (Cond.code ⟨"NameMover", "find", "(IJJ)I"⟩ prog_1_method_13_code 7 (some .int)) ∈ xtt := xtt_t (i := 558) (by decide +kernel) (by decide +kernel)
theorem tw_559 : (Cond.methodLink "NameMover" 177 ⟨"NameMover$Store", "inheritedMember", "(IJJ)I"⟩) ∈ xtt := xtt_t (i := 559) (by decide +kernel) (by decide +kernel)
theorem tw_560 : (Cond.instanceMethod ⟨"NameMover$Store", "inheritedMember", "(IJJ)I"⟩) ∈ xtt := xtt_t (i := 560) (by decide +kernel) (by decide +kernel)
theorem tw_561 : (Cond.selects "NameMover$Store" ⟨"NameMover$Store", "inheritedMember", "(IJJ)I"⟩ ⟨"NameMover$Store", "inheritedMember", "(IJJ)I"⟩) ∈ xtt := xtt_t (i := 561) (by decide +kernel) (by decide +kernel)
theorem tw_562 : (Cond.code ⟨"NameMover$Store", "inheritedMember", "(IJJ)I"⟩ prog_8_method_11_code 8 (some .int)) ∈ xtt := xtt_t (i := 562) (by decide +kernel) (by decide +kernel)
theorem tw_563 : (Cond.classLink "NameMover" 181 "java/util/NoSuchElementException") ∈ xtt := xtt_t (i := 563) (by decide +kernel) (by decide +kernel)
theorem tw_564 : (Cond.instantiable "java/util/NoSuchElementException" 6) ∈ xtt := xtt_t (i := 564) (by decide +kernel) (by decide +kernel)
theorem tw_565 : (Cond.castable "java/util/NoSuchElementException" "java/util/NoSuchElementException") ∈ xtt := xtt_t (i := 565) (by decide +kernel) (by decide +kernel)
theorem tw_566 : (Cond.selects "java/util/NoSuchElementException" ⟨"java/lang/Throwable", "fillInStackTrace", "(I)Ljava/lang/Throwable;"⟩ ⟨"java/lang/Throwable", "fillInStackTrace", "(I)Ljava/lang/Throwable;"⟩) ∈ xtt := xtt_t (i := 566) (by decide +kernel) (by decide +kernel)
theorem tw_567 : (Cond.lays "java/util/NoSuchElementException" "java/lang/Throwable" "cause" "Ljava/lang/Throwable;") ∈ xtt := xtt_t (i := 567) (by decide +kernel) (by decide +kernel)
theorem tw_568 : (Cond.lays "java/util/NoSuchElementException" "java/lang/Throwable" "stackTrace" "[Ljava/lang/StackTraceElement;") ∈ xtt := xtt_t (i := 568) (by decide +kernel) (by decide +kernel)
theorem tw_569 : (Cond.lays "java/util/NoSuchElementException" "java/lang/Throwable" "suppressedExceptions" "Ljava/util/List;") ∈ xtt := xtt_t (i := 569) (by decide +kernel) (by decide +kernel)
theorem tw_570 : (Cond.lays "java/util/NoSuchElementException" "java/lang/Throwable" "detailMessage" "Ljava/lang/String;") ∈ xtt := xtt_t (i := 570) (by decide +kernel) (by decide +kernel)
theorem tw_571 : (Cond.lays "java/util/NoSuchElementException" "java/lang/Throwable" "backtrace" "Ljava/lang/Object;") ∈ xtt := xtt_t (i := 571) (by decide +kernel) (by decide +kernel)
theorem tw_572 : (Cond.methodLink "NameMover" 185 ⟨"java/util/NoSuchElementException", "<init>", "(Ljava/lang/String;)V"⟩) ∈ xtt := xtt_t (i := 572) (by decide +kernel) (by decide +kernel)
theorem tw_573 : (Cond.instanceMethod ⟨"java/util/NoSuchElementException", "<init>", "(Ljava/lang/String;)V"⟩) ∈ xtt := xtt_t (i := 573) (by decide +kernel) (by decide +kernel)
theorem tw_574 : (Cond.code ⟨"java/util/NoSuchElementException", "<init>", "(Ljava/lang/String;)V"⟩ prog_21_method_4_code 2 (none : Option FieldType)) ∈ xtt := xtt_t (i := 574) (by decide +kernel) (by decide +kernel)
theorem tw_575 : (Cond.methodLink "java/util/NoSuchElementException" 13 ⟨"java/lang/RuntimeException", "<init>", "(Ljava/lang/String;)V"⟩) ∈ xtt := xtt_t (i := 575) (by decide +kernel) (by decide +kernel)
theorem tw_578 : (Cond.methodLink "NameMoverLaw" 126 ⟨"NameMoverLaw", "write", "(LNameMover;I[J)I"⟩) ∈ xtt := xtt_t (i := 578) (by decide +kernel) (by decide +kernel)
theorem tw_579 : (Cond.static ⟨"NameMoverLaw", "write", "(LNameMover;I[J)I"⟩) ∈ xtt := xtt_t (i := 579) (by decide +kernel) (by decide +kernel)
theorem tw_580 : (Cond.codeWith ⟨"NameMoverLaw", "write", "(LNameMover;I[J)I"⟩ method_12_code 4 (some .int) [(0, 9, 12, 15)]) ∈ xtt := xtt_t (i := 580) (by decide +kernel) (by decide +kernel)
theorem tw_581 : (Cond.methodLink "NameMoverLaw" 53 ⟨"NameMover", "write", "(I)I"⟩) ∈ xtt := xtt_t (i := 581) (by decide +kernel) (by decide +kernel)
theorem tw_582 : (Cond.instanceMethod ⟨"NameMover", "write", "(I)I"⟩) ∈ xtt := xtt_t (i := 582) (by decide +kernel) (by decide +kernel)
theorem tw_583 : (Cond.selects "NameMover" ⟨"NameMover", "write", "(I)I"⟩ ⟨"NameMover", "write", "(I)I"⟩) ∈ xtt := xtt_t (i := 583) (by decide +kernel) (by decide +kernel)
theorem tw_584 : (Cond.code ⟨"NameMover", "write", "(I)I"⟩ prog_1_method_14_code 2 (some .int)) ∈ xtt := xtt_t (i := 584) (by decide +kernel) (by decide +kernel)
theorem tw_585 : (Cond.methodLink "NameMover" 186 ⟨"NameMover$ClassWriter", "compose", "(I)V"⟩) ∈ xtt := xtt_t (i := 585) (by decide +kernel) (by decide +kernel)
theorem tw_586 : (Cond.instanceMethod ⟨"NameMover$ClassWriter", "compose", "(I)V"⟩) ∈ xtt := xtt_t (i := 586) (by decide +kernel) (by decide +kernel)
theorem tw_587 : (Cond.selects "NameMover$ClassWriter" ⟨"NameMover$ClassWriter", "compose", "(I)V"⟩ ⟨"NameMover$ClassWriter", "compose", "(I)V"⟩) ∈ xtt := xtt_t (i := 587) (by decide +kernel) (by decide +kernel)
theorem tw_588 : (Cond.code ⟨"NameMover$ClassWriter", "compose", "(I)V"⟩ prog_4_method_2_code 5 (none : Option FieldType)) ∈ xtt := xtt_t (i := 588) (by decide +kernel) (by decide +kernel)
theorem tw_589 : (Cond.methodLink "NameMover$ClassWriter" 33 ⟨"NameMover$ClassWriter", "begin", "()V"⟩) ∈ xtt := xtt_t (i := 589) (by decide +kernel) (by decide +kernel)
theorem tw_591 : (Cond.instanceMethod ⟨"NameMover$ClassWriter", "begin", "()V"⟩) ∈ xtt := xtt_t (i := 591) (by decide +kernel) (by decide +kernel)
theorem tw_592 : (Cond.code ⟨"NameMover$ClassWriter", "begin", "()V"⟩ prog_4_method_3_code 1 (none : Option FieldType)) ∈ xtt := xtt_t (i := 592) (by decide +kernel) (by decide +kernel)
theorem tw_593 : (Cond.methodLink "NameMover$ClassWriter" 79 ⟨"NameMover$ByteRow", "cutTo", "(I)V"⟩) ∈ xtt := xtt_t (i := 593) (by decide +kernel) (by decide +kernel)
theorem tw_594 : (Cond.instanceMethod ⟨"NameMover$ByteRow", "cutTo", "(I)V"⟩) ∈ xtt := xtt_t (i := 594) (by decide +kernel) (by decide +kernel)
theorem tw_595 : (Cond.selects "NameMover$ByteRow" ⟨"NameMover$ByteRow", "cutTo", "(I)V"⟩ ⟨"NameMover$ByteRow", "cutTo", "(I)V"⟩) ∈ xtt := xtt_t (i := 595) (by decide +kernel) (by decide +kernel)
theorem tw_596 : (Cond.code ⟨"NameMover$ByteRow", "cutTo", "(I)V"⟩ prog_2_method_3_code 2 (none : Option FieldType)) ∈ xtt := xtt_t (i := 596) (by decide +kernel) (by decide +kernel)
theorem tw_597 : (Cond.methodLink "NameMover$ByteRow" 17 ⟨"java/lang/Math", "min", "(II)I"⟩) ∈ xtt := xtt_t (i := 597) (by decide +kernel) (by decide +kernel)
theorem tw_598 : (Cond.static ⟨"java/lang/Math", "min", "(II)I"⟩) ∈ xtt := xtt_t (i := 598) (by decide +kernel) (by decide +kernel)
theorem tw_599 : (Cond.code ⟨"java/lang/Math", "min", "(II)I"⟩ prog_16_method_69_code 2 (some .int)) ∈ xtt := xtt_t (i := 599) (by decide +kernel) (by decide +kernel)
theorem tw_600 : (Cond.methodLink "NameMover$ByteRow" 23 ⟨"java/lang/Math", "max", "(II)I"⟩) ∈ xtt := xtt_t (i := 600) (by decide +kernel) (by decide +kernel)
theorem tw_601 : (Cond.static ⟨"java/lang/Math", "max", "(II)I"⟩) ∈ xtt := xtt_t (i := 601) (by decide +kernel) (by decide +kernel)
theorem tw_602 : (Cond.code ⟨"java/lang/Math", "max", "(II)I"⟩ prog_16_method_65_code 2 (some .int)) ∈ xtt := xtt_t (i := 602) (by decide +kernel) (by decide +kernel)
theorem tw_603 : (Cond.methodLink "NameMover$ClassWriter" 84 ⟨"NameMover$ByteRow", "append", "(I)V"⟩) ∈ xtt := xtt_t (i := 603) (by decide +kernel) (by decide +kernel)
theorem tw_604 : (Cond.instanceMethod ⟨"NameMover$ByteRow", "append", "(I)V"⟩) ∈ xtt := xtt_t (i := 604) (by decide +kernel) (by decide +kernel)
theorem tw_605 : (Cond.selects "NameMover$ByteRow" ⟨"NameMover$ByteRow", "append", "(I)V"⟩ ⟨"NameMover$ByteRow", "append", "(I)V"⟩) ∈ xtt := xtt_t (i := 605) (by decide +kernel) (by decide +kernel)
theorem tw_606 : (Cond.code ⟨"NameMover$ByteRow", "append", "(I)V"⟩ prog_2_method_7_code 2 (none : Option FieldType)) ∈ xtt := xtt_t (i := 606) (by decide +kernel) (by decide +kernel)
theorem tw_607 : (Cond.methodLink "NameMover$ClassWriter" 42 ⟨"NameMover$ClassWriter", "useText", "(J)V"⟩) ∈ xtt := xtt_t (i := 607) (by decide +kernel) (by decide +kernel)
theorem tw_609 : (Cond.instanceMethod ⟨"NameMover$ClassWriter", "useText", "(J)V"⟩) ∈ xtt := xtt_t (i := 609) (by decide +kernel) (by decide +kernel)
theorem tw_610 : (Cond.code ⟨"NameMover$ClassWriter", "useText", "(J)V"⟩ prog_4_method_6_code 3 (none : Option FieldType)) ∈ xtt := xtt_t (i := 610) (by decide +kernel) (by decide +kernel)
theorem tw_611 : (Cond.methodLink "NameMover$ClassWriter" 91 ⟨"NameMover$ClassWriter", "openText", "()V"⟩) ∈ xtt := xtt_t (i := 611) (by decide +kernel) (by decide +kernel)
theorem tw_613 : (Cond.instanceMethod ⟨"NameMover$ClassWriter", "openText", "()V"⟩) ∈ xtt := xtt_t (i := 613) (by decide +kernel) (by decide +kernel)
theorem tw_614 : (Cond.code ⟨"NameMover$ClassWriter", "openText", "()V"⟩ prog_4_method_9_code 1 (none : Option FieldType)) ∈ xtt := xtt_t (i := 614) (by decide +kernel) (by decide +kernel)
theorem tw_615 : (Cond.methodLink "NameMover$ClassWriter" 116 ⟨"NameMover$ByteRow", "size", "()I"⟩) ∈ xtt := xtt_t (i := 615) (by decide +kernel) (by decide +kernel)
theorem tw_616 : (Cond.instanceMethod ⟨"NameMover$ByteRow", "size", "()I"⟩) ∈ xtt := xtt_t (i := 616) (by decide +kernel) (by decide +kernel)
theorem tw_617 : (Cond.selects "NameMover$ByteRow" ⟨"NameMover$ByteRow", "size", "()I"⟩ ⟨"NameMover$ByteRow", "size", "()I"⟩) ∈ xtt := xtt_t (i := 617) (by decide +kernel) (by decide +kernel)
theorem tw_618 : (Cond.code ⟨"NameMover$ByteRow", "size", "()I"⟩ prog_2_method_2_code 1 (some .int)) ∈ xtt := xtt_t (i := 618) (by decide +kernel) (by decide +kernel)
theorem tw_619 : (Cond.methodLink "NameMover$ClassWriter" 94 ⟨"NameMover$ClassWriter", "appendText", "(J)V"⟩) ∈ xtt := xtt_t (i := 619) (by decide +kernel) (by decide +kernel)
theorem tw_621 : (Cond.instanceMethod ⟨"NameMover$ClassWriter", "appendText", "(J)V"⟩) ∈ xtt := xtt_t (i := 621) (by decide +kernel) (by decide +kernel)
theorem tw_622 : (Cond.code ⟨"NameMover$ClassWriter", "appendText", "(J)V"⟩ prog_4_method_8_code 5 (none : Option FieldType)) ∈ xtt := xtt_t (i := 622) (by decide +kernel) (by decide +kernel)
theorem tw_623 : (Cond.methodLink "NameMover$ClassWriter" 100 ⟨"NameMover$Text", "length", "(J)I"⟩) ∈ xtt := xtt_t (i := 623) (by decide +kernel) (by decide +kernel)
theorem tw_624 : (Cond.methodLink "NameMover$ClassWriter" 106 ⟨"NameMover$Text", "charAt", "(JI)I"⟩) ∈ xtt := xtt_t (i := 624) (by decide +kernel) (by decide +kernel)
theorem tw_625 : (Cond.methodLink "NameMover$ClassWriter" 97 ⟨"NameMover$ClassWriter", "closeText", "()V"⟩) ∈ xtt := xtt_t (i := 625) (by decide +kernel) (by decide +kernel)
theorem tw_627 : (Cond.instanceMethod ⟨"NameMover$ClassWriter", "closeText", "()V"⟩) ∈ xtt := xtt_t (i := 627) (by decide +kernel) (by decide +kernel)
theorem tw_628 : (Cond.code ⟨"NameMover$ClassWriter", "closeText", "()V"⟩ prog_4_method_10_code 4 (none : Option FieldType)) ∈ xtt := xtt_t (i := 628) (by decide +kernel) (by decide +kernel)
theorem tw_629 : (Cond.methodLink "NameMover$ClassWriter" 87 ⟨"NameMover$ByteRow", "set", "(II)V"⟩) ∈ xtt := xtt_t (i := 629) (by decide +kernel) (by decide +kernel)
theorem tw_630 : (Cond.instanceMethod ⟨"NameMover$ByteRow", "set", "(II)V"⟩) ∈ xtt := xtt_t (i := 630) (by decide +kernel) (by decide +kernel)
theorem tw_631 : (Cond.selects "NameMover$ByteRow" ⟨"NameMover$ByteRow", "set", "(II)V"⟩ ⟨"NameMover$ByteRow", "set", "(II)V"⟩) ∈ xtt := xtt_t (i := 631) (by decide +kernel) (by decide +kernel)
theorem tw_632 : (Cond.code ⟨"NameMover$ByteRow", "set", "(II)V"⟩ prog_2_method_6_code 3 (none : Option FieldType)) ∈ xtt := xtt_t (i := 632) (by decide +kernel) (by decide +kernel)
theorem tw_633 : (Cond.methodLink "NameMover$ByteRow" 26 ⟨"NameMover$ByteRow", "has", "(I)Z"⟩) ∈ xtt := xtt_t (i := 633) (by decide +kernel) (by decide +kernel)
theorem tw_634 : (Cond.instanceMethod ⟨"NameMover$ByteRow", "has", "(I)Z"⟩) ∈ xtt := xtt_t (i := 634) (by decide +kernel) (by decide +kernel)
theorem tw_635 : (Cond.selects "NameMover$ByteRow" ⟨"NameMover$ByteRow", "has", "(I)Z"⟩ ⟨"NameMover$ByteRow", "has", "(I)Z"⟩) ∈ xtt := xtt_t (i := 635) (by decide +kernel) (by decide +kernel)
theorem tw_636 : (Cond.code ⟨"NameMover$ByteRow", "has", "(I)Z"⟩ prog_2_method_4_code 2 (some .boolean)) ∈ xtt := xtt_t (i := 636) (by decide +kernel) (by decide +kernel)
theorem tw_637 : (Cond.methodLink "NameMover$ClassWriter" 120 ⟨"NameMover$ByteRow", "hasEqualBytes", "(ILNameMover$ByteRow;II)Z"⟩) ∈ xtt := xtt_t (i := 637) (by decide +kernel) (by decide +kernel)
theorem tw_638 : (Cond.instanceMethod ⟨"NameMover$ByteRow", "hasEqualBytes", "(ILNameMover$ByteRow;II)Z"⟩) ∈ xtt := xtt_t (i := 638) (by decide +kernel) (by decide +kernel)
theorem tw_639 : (Cond.selects "NameMover$ByteRow" ⟨"NameMover$ByteRow", "hasEqualBytes", "(ILNameMover$ByteRow;II)Z"⟩ ⟨"NameMover$ByteRow", "hasEqualBytes", "(ILNameMover$ByteRow;II)Z"⟩) ∈ xtt := xtt_t (i := 639) (by decide +kernel) (by decide +kernel)
theorem tw_640 : (Cond.code ⟨"NameMover$ByteRow", "hasEqualBytes", "(ILNameMover$ByteRow;II)Z"⟩ prog_2_method_9_code 6 (some .boolean)) ∈ xtt := xtt_t (i := 640) (by decide +kernel) (by decide +kernel)
theorem tw_641 : (Cond.methodLink "NameMover$ByteRow" 34 ⟨"NameMover$ByteRow", "get", "(I)I"⟩) ∈ xtt := xtt_t (i := 641) (by decide +kernel) (by decide +kernel)
theorem tw_642 : (Cond.instanceMethod ⟨"NameMover$ByteRow", "get", "(I)I"⟩) ∈ xtt := xtt_t (i := 642) (by decide +kernel) (by decide +kernel)
theorem tw_643 : (Cond.selects "NameMover$ByteRow" ⟨"NameMover$ByteRow", "get", "(I)I"⟩ ⟨"NameMover$ByteRow", "get", "(I)I"⟩) ∈ xtt := xtt_t (i := 643) (by decide +kernel) (by decide +kernel)
theorem tw_644 : (Cond.code ⟨"NameMover$ByteRow", "get", "(I)I"⟩ prog_2_method_5_code 2 (some .int)) ∈ xtt := xtt_t (i := 644) (by decide +kernel) (by decide +kernel)
theorem tw_645 : (Cond.methodLink "NameMover$ClassWriter" 49 ⟨"NameMover$ClassWriter", "useNumber", "(I)V"⟩) ∈ xtt := xtt_t (i := 645) (by decide +kernel) (by decide +kernel)
theorem tw_647 : (Cond.instanceMethod ⟨"NameMover$ClassWriter", "useNumber", "(I)V"⟩) ∈ xtt := xtt_t (i := 647) (by decide +kernel) (by decide +kernel)
theorem tw_648 : (Cond.code ⟨"NameMover$ClassWriter", "useNumber", "(I)V"⟩ prog_4_method_5_code 2 (none : Option FieldType)) ∈ xtt := xtt_t (i := 648) (by decide +kernel) (by decide +kernel)
theorem tw_649 : (Cond.methodLink "NameMover$ClassWriter" 60 ⟨"NameMover$Store", "number", "(II)I"⟩) ∈ xtt := xtt_t (i := 649) (by decide +kernel) (by decide +kernel)
theorem tw_650 : (Cond.methodLink "NameMover$ClassWriter" 70 ⟨"NameMover$ClassWriter", "useDescriptor", "(J)V"⟩) ∈ xtt := xtt_t (i := 650) (by decide +kernel) (by decide +kernel)
theorem tw_652 : (Cond.instanceMethod ⟨"NameMover$ClassWriter", "useDescriptor", "(J)V"⟩) ∈ xtt := xtt_t (i := 652) (by decide +kernel) (by decide +kernel)
theorem tw_653 : (Cond.code ⟨"NameMover$ClassWriter", "useDescriptor", "(J)V"⟩ prog_4_method_7_code 6 (none : Option FieldType)) ∈ xtt := xtt_t (i := 653) (by decide +kernel) (by decide +kernel)
theorem tw_654 : (Cond.methodLink "NameMover$ClassWriter" 110 ⟨"NameMover$Descriptor", "isClassDigit", "(II)Z"⟩) ∈ xtt := xtt_t (i := 654) (by decide +kernel) (by decide +kernel)
theorem tw_655 : (Cond.methodLink "NameMover$ClassWriter" 76 ⟨"NameMover$ClassWriter", "end", "()V"⟩) ∈ xtt := xtt_t (i := 655) (by decide +kernel) (by decide +kernel)
theorem tw_657 : (Cond.instanceMethod ⟨"NameMover$ClassWriter", "end", "()V"⟩) ∈ xtt := xtt_t (i := 657) (by decide +kernel) (by decide +kernel)
theorem tw_658 : (Cond.code ⟨"NameMover$ClassWriter", "end", "()V"⟩ prog_4_method_4_code 2 (none : Option FieldType)) ∈ xtt := xtt_t (i := 658) (by decide +kernel) (by decide +kernel)
theorem tw_659 : (Cond.methodLink "NameMover" 189 ⟨"NameMover$ByteRow", "size", "()I"⟩) ∈ xtt := xtt_t (i := 659) (by decide +kernel) (by decide +kernel)
theorem tw_660 : (Cond.methodLink "NameMoverLaw" 130 ⟨"NameMoverLaw", "byteAt", "(LNameMover;I[J)I"⟩) ∈ xtt := xtt_t (i := 660) (by decide +kernel) (by decide +kernel)
theorem tw_661 : (Cond.static ⟨"NameMoverLaw", "byteAt", "(LNameMover;I[J)I"⟩) ∈ xtt := xtt_t (i := 661) (by decide +kernel) (by decide +kernel)
theorem tw_662 : (Cond.codeWith ⟨"NameMoverLaw", "byteAt", "(LNameMover;I[J)I"⟩ method_13_code 4 (some .int) [(0, 9, 12, 15)]) ∈ xtt := xtt_t (i := 662) (by decide +kernel) (by decide +kernel)
theorem tw_663 : (Cond.methodLink "NameMoverLaw" 57 ⟨"NameMover", "byteAt", "(I)I"⟩) ∈ xtt := xtt_t (i := 663) (by decide +kernel) (by decide +kernel)
theorem tw_664 : (Cond.instanceMethod ⟨"NameMover", "byteAt", "(I)I"⟩) ∈ xtt := xtt_t (i := 664) (by decide +kernel) (by decide +kernel)
theorem tw_665 : (Cond.selects "NameMover" ⟨"NameMover", "byteAt", "(I)I"⟩ ⟨"NameMover", "byteAt", "(I)I"⟩) ∈ xtt := xtt_t (i := 665) (by decide +kernel) (by decide +kernel)
theorem tw_666 : (Cond.code ⟨"NameMover", "byteAt", "(I)I"⟩ prog_1_method_15_code 2 (some .int)) ∈ xtt := xtt_t (i := 666) (by decide +kernel) (by decide +kernel)
theorem tw_667 : (Cond.methodLink "NameMover" 192 ⟨"NameMover", "requireByte", "(I)V"⟩) ∈ xtt := xtt_t (i := 667) (by decide +kernel) (by decide +kernel)
theorem tw_669 : (Cond.instanceMethod ⟨"NameMover", "requireByte", "(I)V"⟩) ∈ xtt := xtt_t (i := 669) (by decide +kernel) (by decide +kernel)
theorem tw_670 : (Cond.code ⟨"NameMover", "requireByte", "(I)V"⟩ prog_1_method_21_code 2 (none : Option FieldType)) ∈ xtt := xtt_t (i := 670) (by decide +kernel) (by decide +kernel)
theorem tw_671 : (Cond.methodLink "NameMover" 223 ⟨"NameMover$ByteRow", "has", "(I)Z"⟩) ∈ xtt := xtt_t (i := 671) (by decide +kernel) (by decide +kernel)
theorem tw_672 : (Cond.stringRef "NameMover" 226 "no such byte") ∈ xtt := xtt_t (i := 672) (by decide +kernel) (by decide +kernel)
theorem tw_673 : (Cond.methodLink "NameMover" 195 ⟨"NameMover$ByteRow", "get", "(I)I"⟩) ∈ xtt := xtt_t (i := 673) (by decide +kernel) (by decide +kernel)
theorem tw_674 : (Cond.methodLink "NameMoverLaw" 133 ⟨"NameMoverLaw", "poke", "(LNameMover;II)I"⟩) ∈ xtt := xtt_t (i := 674) (by decide +kernel) (by decide +kernel)
theorem tw_675 : (Cond.static ⟨"NameMoverLaw", "poke", "(LNameMover;II)I"⟩) ∈ xtt := xtt_t (i := 675) (by decide +kernel) (by decide +kernel)
theorem tw_676 : (Cond.codeWith ⟨"NameMoverLaw", "poke", "(LNameMover;II)I"⟩ method_14_code 4 (some .int) [(0, 6, 9, 15), (0, 6, 12, 13)]) ∈ xtt := xtt_t (i := 676) (by decide +kernel) (by decide +kernel)
theorem tw_677 : (Cond.methodLink "NameMoverLaw" 60 ⟨"NameMover", "poke", "(II)V"⟩) ∈ xtt := xtt_t (i := 677) (by decide +kernel) (by decide +kernel)
theorem tw_678 : (Cond.instanceMethod ⟨"NameMover", "poke", "(II)V"⟩) ∈ xtt := xtt_t (i := 678) (by decide +kernel) (by decide +kernel)
theorem tw_679 : (Cond.selects "NameMover" ⟨"NameMover", "poke", "(II)V"⟩ ⟨"NameMover", "poke", "(II)V"⟩) ∈ xtt := xtt_t (i := 679) (by decide +kernel) (by decide +kernel)
theorem tw_680 : (Cond.code ⟨"NameMover", "poke", "(II)V"⟩ prog_1_method_16_code 3 (none : Option FieldType)) ∈ xtt := xtt_t (i := 680) (by decide +kernel) (by decide +kernel)
theorem tw_681 : (Cond.stringRef "NameMover" 199 "no byte") ∈ xtt := xtt_t (i := 681) (by decide +kernel) (by decide +kernel)
theorem tw_682 : (Cond.methodLink "NameMover" 201 ⟨"NameMover$ByteRow", "set", "(II)V"⟩) ∈ xtt := xtt_t (i := 682) (by decide +kernel) (by decide +kernel)
theorem tw_683 : (Cond.methodLink "NameMoverLaw" 137 ⟨"NameMoverLaw", "load", "(LNameMover;[J)I"⟩) ∈ xtt := xtt_t (i := 683) (by decide +kernel) (by decide +kernel)
theorem tw_684 : (Cond.static ⟨"NameMoverLaw", "load", "(LNameMover;[J)I"⟩) ∈ xtt := xtt_t (i := 684) (by decide +kernel) (by decide +kernel)
theorem tw_685 : (Cond.codeWith ⟨"NameMoverLaw", "load", "(LNameMover;[J)I"⟩ method_15_code 3 (some .int) [(0, 8, 11, 17), (0, 8, 14, 13)]) ∈ xtt := xtt_t (i := 685) (by decide +kernel) (by decide +kernel)
theorem tw_686 : (Cond.methodLink "NameMoverLaw" 64 ⟨"NameMover", "load", "()I"⟩) ∈ xtt := xtt_t (i := 686) (by decide +kernel) (by decide +kernel)
theorem tw_687 : (Cond.instanceMethod ⟨"NameMover", "load", "()I"⟩) ∈ xtt := xtt_t (i := 687) (by decide +kernel) (by decide +kernel)
theorem tw_688 : (Cond.selects "NameMover" ⟨"NameMover", "load", "()I"⟩ ⟨"NameMover", "load", "()I"⟩) ∈ xtt := xtt_t (i := 688) (by decide +kernel) (by decide +kernel)
theorem tw_689 : (Cond.code ⟨"NameMover", "load", "()I"⟩ prog_1_method_17_code 1 (some .int)) ∈ xtt := xtt_t (i := 689) (by decide +kernel) (by decide +kernel)
theorem tw_690 : (Cond.stringRef "NameMover" 204 "moving, or 8 classes") ∈ xtt := xtt_t (i := 690) (by decide +kernel) (by decide +kernel)
theorem tw_691 : (Cond.methodLink "NameMover" 206 ⟨"NameMover$ClassReader", "placeClass", "()Z"⟩) ∈ xtt := xtt_t (i := 691) (by decide +kernel) (by decide +kernel)
theorem tw_692 : (Cond.instanceMethod ⟨"NameMover$ClassReader", "placeClass", "()Z"⟩) ∈ xtt := xtt_t (i := 692) (by decide +kernel) (by decide +kernel)
theorem tw_693 : (Cond.selects "NameMover$ClassReader" ⟨"NameMover$ClassReader", "placeClass", "()Z"⟩ ⟨"NameMover$ClassReader", "placeClass", "()Z"⟩) ∈ xtt := xtt_t (i := 693) (by decide +kernel) (by decide +kernel)
theorem tw_694 : (Cond.code ⟨"NameMover$ClassReader", "placeClass", "()Z"⟩ prog_3_method_2_code 6 (some .boolean)) ∈ xtt := xtt_t (i := 694) (by decide +kernel) (by decide +kernel)
theorem tw_695 : (Cond.methodLink "NameMover$ClassReader" 30 ⟨"NameMover$ClassReader", "skipPool", "()Z"⟩) ∈ xtt := xtt_t (i := 695) (by decide +kernel) (by decide +kernel)
theorem tw_697 : (Cond.instanceMethod ⟨"NameMover$ClassReader", "skipPool", "()Z"⟩) ∈ xtt := xtt_t (i := 697) (by decide +kernel) (by decide +kernel)
theorem tw_698 : (Cond.code ⟨"NameMover$ClassReader", "skipPool", "()Z"⟩ prog_3_method_4_code 2 (some .boolean)) ∈ xtt := xtt_t (i := 698) (by decide +kernel) (by decide +kernel)
theorem tw_699 : (Cond.methodLink "NameMover$ClassReader" 89 ⟨"NameMover$ByteRow", "get", "(I)I"⟩) ∈ xtt := xtt_t (i := 699) (by decide +kernel) (by decide +kernel)
theorem tw_700 : (Cond.methodLink "NameMover$ClassReader" 95 ⟨"NameMover$ByteRow", "size", "()I"⟩) ∈ xtt := xtt_t (i := 700) (by decide +kernel) (by decide +kernel)
theorem tw_701 : (Cond.methodLink "NameMover$ClassReader" 34 ⟨"NameMover$ClassReader", "nextText", "()I"⟩) ∈ xtt := xtt_t (i := 701) (by decide +kernel) (by decide +kernel)
theorem tw_703 : (Cond.instanceMethod ⟨"NameMover$ClassReader", "nextText", "()I"⟩) ∈ xtt := xtt_t (i := 703) (by decide +kernel) (by decide +kernel)
theorem tw_704 : (Cond.code ⟨"NameMover$ClassReader", "nextText", "()I"⟩ prog_3_method_6_code 2 (some .int)) ∈ xtt := xtt_t (i := 704) (by decide +kernel) (by decide +kernel)
theorem tw_705 : (Cond.methodLink "NameMover$ClassReader" 60 ⟨"NameMover$ClassReader", "nextByte", "()I"⟩) ∈ xtt := xtt_t (i := 705) (by decide +kernel) (by decide +kernel)
theorem tw_707 : (Cond.instanceMethod ⟨"NameMover$ClassReader", "nextByte", "()I"⟩) ∈ xtt := xtt_t (i := 707) (by decide +kernel) (by decide +kernel)
theorem tw_708 : (Cond.code ⟨"NameMover$ClassReader", "nextByte", "()I"⟩ prog_3_method_5_code 1 (some .int)) ∈ xtt := xtt_t (i := 708) (by decide +kernel) (by decide +kernel)
theorem tw_709 : (Cond.methodLink "NameMover$ClassReader" 38 ⟨"NameMover$ClassReader", "shortText", "(I)J"⟩) ∈ xtt := xtt_t (i := 709) (by decide +kernel) (by decide +kernel)
theorem tw_711 : (Cond.instanceMethod ⟨"NameMover$ClassReader", "shortText", "(I)J"⟩) ∈ xtt := xtt_t (i := 711) (by decide +kernel) (by decide +kernel)
theorem tw_712 : (Cond.code ⟨"NameMover$ClassReader", "shortText", "(I)J"⟩ prog_3_method_10_code 2 (some .long)) ∈ xtt := xtt_t (i := 712) (by decide +kernel) (by decide +kernel)
theorem tw_713 : (Cond.methodLink "NameMover$ClassReader" 98 ⟨"NameMover$ClassReader", "textLength", "(I)I"⟩) ∈ xtt := xtt_t (i := 713) (by decide +kernel) (by decide +kernel)
theorem tw_715 : (Cond.instanceMethod ⟨"NameMover$ClassReader", "textLength", "(I)I"⟩) ∈ xtt := xtt_t (i := 715) (by decide +kernel) (by decide +kernel)
theorem tw_716 : (Cond.code ⟨"NameMover$ClassReader", "textLength", "(I)I"⟩ prog_3_method_8_code 2 (some .int)) ∈ xtt := xtt_t (i := 716) (by decide +kernel) (by decide +kernel)
theorem tw_717 : (Cond.methodLink "NameMover$ClassReader" 101 ⟨"NameMover$ClassReader", "shortText", "(III)J"⟩) ∈ xtt := xtt_t (i := 717) (by decide +kernel) (by decide +kernel)
theorem tw_719 : (Cond.instanceMethod ⟨"NameMover$ClassReader", "shortText", "(III)J"⟩) ∈ xtt := xtt_t (i := 719) (by decide +kernel) (by decide +kernel)
theorem tw_720 : (Cond.code ⟨"NameMover$ClassReader", "shortText", "(III)J"⟩ prog_3_method_11_code 7 (some .long)) ∈ xtt := xtt_t (i := 720) (by decide +kernel) (by decide +kernel)
theorem tw_721 : (Cond.methodLink "NameMover$ClassReader" 104 ⟨"NameMover$ClassReader", "textChar", "(II)I"⟩) ∈ xtt := xtt_t (i := 721) (by decide +kernel) (by decide +kernel)
theorem tw_723 : (Cond.instanceMethod ⟨"NameMover$ClassReader", "textChar", "(II)I"⟩) ∈ xtt := xtt_t (i := 723) (by decide +kernel) (by decide +kernel)
theorem tw_724 : (Cond.code ⟨"NameMover$ClassReader", "textChar", "(II)I"⟩ prog_3_method_9_code 3 (some .int)) ∈ xtt := xtt_t (i := 724) (by decide +kernel) (by decide +kernel)
theorem tw_725 : (Cond.methodLink "NameMover$ClassReader" 108 ⟨"NameMover$Text", "placed", "(II)J"⟩) ∈ xtt := xtt_t (i := 725) (by decide +kernel) (by decide +kernel)
theorem tw_726 : (Cond.methodLink "NameMover$ClassReader" 42 ⟨"NameMover$Text", "isClassName", "(J)Z"⟩) ∈ xtt := xtt_t (i := 726) (by decide +kernel) (by decide +kernel)
theorem tw_727 : (Cond.methodLink "NameMover$ClassReader" 53 ⟨"NameMover$Store", "classNamed", "(JI)I"⟩) ∈ xtt := xtt_t (i := 727) (by decide +kernel) (by decide +kernel)
theorem tw_728 : (Cond.methodLink "NameMover$ClassReader" 57 ⟨"NameMover$ClassReader", "nextSuperclass", "()I"⟩) ∈ xtt := xtt_t (i := 728) (by decide +kernel) (by decide +kernel)
theorem tw_730 : (Cond.instanceMethod ⟨"NameMover$ClassReader", "nextSuperclass", "()I"⟩) ∈ xtt := xtt_t (i := 730) (by decide +kernel) (by decide +kernel)
theorem tw_731 : (Cond.code ⟨"NameMover$ClassReader", "nextSuperclass", "()I"⟩ prog_3_method_7_code 3 (some .int)) ∈ xtt := xtt_t (i := 731) (by decide +kernel) (by decide +kernel)
theorem tw_732 : (Cond.methodLink "NameMover$ClassReader" 63 ⟨"NameMover$Store", "placeClass", "(JIZ)V"⟩) ∈ xtt := xtt_t (i := 732) (by decide +kernel) (by decide +kernel)
theorem tw_733 : (Cond.methodLink "NameMover$ClassReader" 67 ⟨"NameMover$ClassReader", "placeMember", "()Z"⟩) ∈ xtt := xtt_t (i := 733) (by decide +kernel) (by decide +kernel)
theorem tw_735 : (Cond.instanceMethod ⟨"NameMover$ClassReader", "placeMember", "()Z"⟩) ∈ xtt := xtt_t (i := 735) (by decide +kernel) (by decide +kernel)
theorem tw_736 : (Cond.code ⟨"NameMover$ClassReader", "placeMember", "()Z"⟩ prog_3_method_3_code 7 (some .boolean)) ∈ xtt := xtt_t (i := 736) (by decide +kernel) (by decide +kernel)
theorem tw_737 : (Cond.methodLink "NameMover$ClassReader" 70 ⟨"NameMover$ClassReader", "compactDescriptor", "(I)J"⟩) ∈ xtt := xtt_t (i := 737) (by decide +kernel) (by decide +kernel)
theorem tw_739 : (Cond.instanceMethod ⟨"NameMover$ClassReader", "compactDescriptor", "(I)J"⟩) ∈ xtt := xtt_t (i := 739) (by decide +kernel) (by decide +kernel)
theorem tw_740 : (Cond.code ⟨"NameMover$ClassReader", "compactDescriptor", "(I)J"⟩ prog_3_method_12_code 10 (some .long)) ∈ xtt := xtt_t (i := 740) (by decide +kernel) (by decide +kernel)
theorem tw_741 : (Cond.methodLink "NameMover$ClassReader" 112 ⟨"NameMover$ClassReader", "semicolon", "(III)I"⟩) ∈ xtt := xtt_t (i := 741) (by decide +kernel) (by decide +kernel)
theorem tw_743 : (Cond.instanceMethod ⟨"NameMover$ClassReader", "semicolon", "(III)I"⟩) ∈ xtt := xtt_t (i := 743) (by decide +kernel) (by decide +kernel)
theorem tw_744 : (Cond.code ⟨"NameMover$ClassReader", "semicolon", "(III)I"⟩ prog_3_method_13_code 5 (some .int)) ∈ xtt := xtt_t (i := 744) (by decide +kernel) (by decide +kernel)
theorem tw_745 : (Cond.methodLink "NameMover$ClassReader" 116 ⟨"java/lang/Math", "max", "(II)I"⟩) ∈ xtt := xtt_t (i := 745) (by decide +kernel) (by decide +kernel)
theorem tw_746 : (Cond.methodLink "NameMover$ClassReader" 73 ⟨"NameMover$Text", "isIdentifier", "(J)Z"⟩) ∈ xtt := xtt_t (i := 746) (by decide +kernel) (by decide +kernel)
theorem tw_747 : (Cond.methodLink "NameMover$ClassReader" 76 ⟨"NameMover$Descriptor", "isOne", "(JI)Z"⟩) ∈ xtt := xtt_t (i := 747) (by decide +kernel) (by decide +kernel)
theorem tw_748 : (Cond.methodLink "NameMover$ClassReader" 82 ⟨"NameMover$Store", "hasRoomFor", "(IJJ)Z"⟩) ∈ xtt := xtt_t (i := 748) (by decide +kernel) (by decide +kernel)
theorem tw_749 : (Cond.methodLink "NameMover$ClassReader" 86 ⟨"NameMover$Store", "placeMember", "(IJJZ)I"⟩) ∈ xtt := xtt_t (i := 749) (by decide +kernel) (by decide +kernel)
theorem tw_750 : (Cond.methodLink "NameMover" 208 ⟨"NameMover", "isFileOfPlacedClass", "()Z"⟩) ∈ xtt := xtt_t (i := 750) (by decide +kernel) (by decide +kernel)
theorem tw_752 : (Cond.instanceMethod ⟨"NameMover", "isFileOfPlacedClass", "()Z"⟩) ∈ xtt := xtt_t (i := 752) (by decide +kernel) (by decide +kernel)
theorem tw_753 : (Cond.code ⟨"NameMover", "isFileOfPlacedClass", "()Z"⟩ prog_1_method_18_code 1 (some .boolean)) ∈ xtt := xtt_t (i := 753) (by decide +kernel) (by decide +kernel)
theorem tw_754 : (Cond.methodLink "NameMover" 213 ⟨"NameMover$ByteRow", "isEqualTo", "(LNameMover$ByteRow;)Z"⟩) ∈ xtt := xtt_t (i := 754) (by decide +kernel) (by decide +kernel)
theorem tw_755 : (Cond.instanceMethod ⟨"NameMover$ByteRow", "isEqualTo", "(LNameMover$ByteRow;)Z"⟩) ∈ xtt := xtt_t (i := 755) (by decide +kernel) (by decide +kernel)
theorem tw_756 : (Cond.selects "NameMover$ByteRow" ⟨"NameMover$ByteRow", "isEqualTo", "(LNameMover$ByteRow;)Z"⟩ ⟨"NameMover$ByteRow", "isEqualTo", "(LNameMover$ByteRow;)Z"⟩) ∈ xtt := xtt_t (i := 756) (by decide +kernel) (by decide +kernel)
theorem tw_757 : (Cond.code ⟨"NameMover$ByteRow", "isEqualTo", "(LNameMover$ByteRow;)Z"⟩ prog_2_method_8_code 2 (some .boolean)) ∈ xtt := xtt_t (i := 757) (by decide +kernel) (by decide +kernel)
theorem tw_758 : (Cond.methodLink "NameMover$ByteRow" 30 ⟨"NameMover$ByteRow", "hasEqualBytes", "(ILNameMover$ByteRow;II)Z"⟩) ∈ xtt := xtt_t (i := 758) (by decide +kernel) (by decide +kernel)
theorem tw_759 : (Cond.stringRef "NameMover" 211 "no class has this file") ∈ xtt := xtt_t (i := 759) (by decide +kernel) (by decide +kernel)
theorem tw_766 : (Cond.fieldLink "NameMoverModel" 60 "NameMoverModel" "thrown" "I") ∈ xtt := xtt_t (i := 766) (by decide +kernel) (by decide +kernel)
theorem tw_767 : (Cond.fieldLink "NameMoverModel" 99 "NameMoverModel" "count" "I") ∈ xtt := xtt_t (i := 767) (by decide +kernel) (by decide +kernel)
theorem tw_768 : (Cond.fieldLink "NameMoverModel" 7 "NameMoverModel" "names" "[J") ∈ xtt := xtt_t (i := 768) (by decide +kernel) (by decide +kernel)
theorem tw_769 : (Cond.fieldLink "NameMoverModel" 13 "NameMoverModel" "fresh" "[J") ∈ xtt := xtt_t (i := 769) (by decide +kernel) (by decide +kernel)
theorem tw_770 : (Cond.fieldLink "NameMoverModel" 16 "NameMoverModel" "above" "[I") ∈ xtt := xtt_t (i := 770) (by decide +kernel) (by decide +kernel)
theorem tw_771 : (Cond.fieldLink "NameMoverModel" 20 "NameMoverModel" "library" "[Z") ∈ xtt := xtt_t (i := 771) (by decide +kernel) (by decide +kernel)
theorem tw_772 : (Cond.fieldLink "NameMoverModel" 24 "NameMoverModel" "members" "[I") ∈ xtt := xtt_t (i := 772) (by decide +kernel) (by decide +kernel)
theorem tw_773 : (Cond.fieldLink "NameMoverModel" 27 "NameMoverModel" "memberNames" "[J") ∈ xtt := xtt_t (i := 773) (by decide +kernel) (by decide +kernel)
theorem tw_774 : (Cond.fieldLink "NameMoverModel" 30 "NameMoverModel" "memberFresh" "[J") ∈ xtt := xtt_t (i := 774) (by decide +kernel) (by decide +kernel)
theorem tw_775 : (Cond.fieldLink "NameMoverModel" 33 "NameMoverModel" "descriptors" "[J") ∈ xtt := xtt_t (i := 775) (by decide +kernel) (by decide +kernel)
theorem tw_776 : (Cond.fieldLink "NameMoverModel" 36 "NameMoverModel" "fixed" "[Z") ∈ xtt := xtt_t (i := 776) (by decide +kernel) (by decide +kernel)
theorem tw_777 : (Cond.fieldLink "NameMoverModel" 39 "NameMoverModel" "marked" "[Z") ∈ xtt := xtt_t (i := 777) (by decide +kernel) (by decide +kernel)
theorem tw_778 : (Cond.fieldLink "NameMoverModel" 42 "NameMoverModel" "buffer" "[I") ∈ xtt := xtt_t (i := 778) (by decide +kernel) (by decide +kernel)
theorem tw_779 : (Cond.fieldLink "NameMoverModel" 203 "NameMoverModel" "size" "I") ∈ xtt := xtt_t (i := 779) (by decide +kernel) (by decide +kernel)
theorem tw_780 : (Cond.fieldLink "NameMoverModel" 45 "NameMoverModel" "made" "[I") ∈ xtt := xtt_t (i := 780) (by decide +kernel) (by decide +kernel)
theorem tw_781 : (Cond.fieldLink "NameMoverModel" 187 "NameMoverModel" "madeSize" "I") ∈ xtt := xtt_t (i := 781) (by decide +kernel) (by decide +kernel)
theorem tw_782 : (Cond.fieldLink "NameMoverModel" 174 "NameMoverModel" "pool" "I") ∈ xtt := xtt_t (i := 782) (by decide +kernel) (by decide +kernel)
theorem tw_783 : (Cond.fieldLink "NameMoverModel" 48 "NameMoverModel" "poolChars" "[I") ∈ xtt := xtt_t (i := 783) (by decide +kernel) (by decide +kernel)
theorem tw_784 : (Cond.fieldLink "NameMoverModel" 51 "NameMoverModel" "poolSize" "[I") ∈ xtt := xtt_t (i := 784) (by decide +kernel) (by decide +kernel)
theorem tw_785 : (Cond.fieldLink "NameMoverModel" 54 "NameMoverModel" "line" "[I") ∈ xtt := xtt_t (i := 785) (by decide +kernel) (by decide +kernel)
theorem tw_786 : (Cond.fieldLink "NameMoverModel" 177 "NameMoverModel" "lineSize" "I") ∈ xtt := xtt_t (i := 786) (by decide +kernel) (by decide +kernel)
theorem tw_787 : (Cond.fieldLink "NameMoverModel" 57 "NameMoverModel" "used" "[I") ∈ xtt := xtt_t (i := 787) (by decide +kernel) (by decide +kernel)
theorem tw_788 : (Cond.fieldLink "NameMoverModel" 92 "NameMoverModel" "at" "I") ∈ xtt := xtt_t (i := 788) (by decide +kernel) (by decide +kernel)
theorem tw_789 : (Cond.lays "NameMoverModel" "NameMoverModel" "thrown" "I") ∈ xtt := xtt_t (i := 789) (by decide +kernel) (by decide +kernel)
theorem tw_791 : (Cond.lays "NameMoverModel" "NameMoverModel" "count" "I") ∈ xtt := xtt_t (i := 791) (by decide +kernel) (by decide +kernel)
theorem tw_793 : (Cond.laysFinal "NameMoverModel" "NameMoverModel" "names" "[J") ∈ xtt := xtt_t (i := 793) (by decide +kernel) (by decide +kernel)
theorem tw_795 : (Cond.laysFinal "NameMoverModel" "NameMoverModel" "fresh" "[J") ∈ xtt := xtt_t (i := 795) (by decide +kernel) (by decide +kernel)
theorem tw_797 : (Cond.laysFinal "NameMoverModel" "NameMoverModel" "above" "[I") ∈ xtt := xtt_t (i := 797) (by decide +kernel) (by decide +kernel)
theorem tw_799 : (Cond.laysFinal "NameMoverModel" "NameMoverModel" "library" "[Z") ∈ xtt := xtt_t (i := 799) (by decide +kernel) (by decide +kernel)
theorem tw_801 : (Cond.laysFinal "NameMoverModel" "NameMoverModel" "members" "[I") ∈ xtt := xtt_t (i := 801) (by decide +kernel) (by decide +kernel)
theorem tw_803 : (Cond.laysFinal "NameMoverModel" "NameMoverModel" "memberNames" "[J") ∈ xtt := xtt_t (i := 803) (by decide +kernel) (by decide +kernel)
theorem tw_805 : (Cond.laysFinal "NameMoverModel" "NameMoverModel" "memberFresh" "[J") ∈ xtt := xtt_t (i := 805) (by decide +kernel) (by decide +kernel)
theorem tw_807 : (Cond.laysFinal "NameMoverModel" "NameMoverModel" "descriptors" "[J") ∈ xtt := xtt_t (i := 807) (by decide +kernel) (by decide +kernel)
theorem tw_809 : (Cond.laysFinal "NameMoverModel" "NameMoverModel" "fixed" "[Z") ∈ xtt := xtt_t (i := 809) (by decide +kernel) (by decide +kernel)
theorem tw_811 : (Cond.laysFinal "NameMoverModel" "NameMoverModel" "marked" "[Z") ∈ xtt := xtt_t (i := 811) (by decide +kernel) (by decide +kernel)
theorem tw_813 : (Cond.laysFinal "NameMoverModel" "NameMoverModel" "buffer" "[I") ∈ xtt := xtt_t (i := 813) (by decide +kernel) (by decide +kernel)
theorem tw_815 : (Cond.lays "NameMoverModel" "NameMoverModel" "size" "I") ∈ xtt := xtt_t (i := 815) (by decide +kernel) (by decide +kernel)
theorem tw_817 : (Cond.laysFinal "NameMoverModel" "NameMoverModel" "made" "[I") ∈ xtt := xtt_t (i := 817) (by decide +kernel) (by decide +kernel)
theorem tw_819 : (Cond.lays "NameMoverModel" "NameMoverModel" "madeSize" "I") ∈ xtt := xtt_t (i := 819) (by decide +kernel) (by decide +kernel)
theorem tw_821 : (Cond.lays "NameMoverModel" "NameMoverModel" "pool" "I") ∈ xtt := xtt_t (i := 821) (by decide +kernel) (by decide +kernel)
theorem tw_823 : (Cond.laysFinal "NameMoverModel" "NameMoverModel" "poolChars" "[I") ∈ xtt := xtt_t (i := 823) (by decide +kernel) (by decide +kernel)
theorem tw_825 : (Cond.laysFinal "NameMoverModel" "NameMoverModel" "poolSize" "[I") ∈ xtt := xtt_t (i := 825) (by decide +kernel) (by decide +kernel)
theorem tw_827 : (Cond.laysFinal "NameMoverModel" "NameMoverModel" "line" "[I") ∈ xtt := xtt_t (i := 827) (by decide +kernel) (by decide +kernel)
theorem tw_829 : (Cond.lays "NameMoverModel" "NameMoverModel" "lineSize" "I") ∈ xtt := xtt_t (i := 829) (by decide +kernel) (by decide +kernel)
theorem tw_831 : (Cond.laysFinal "NameMoverModel" "NameMoverModel" "used" "[I") ∈ xtt := xtt_t (i := 831) (by decide +kernel) (by decide +kernel)
theorem tw_833 : (Cond.lays "NameMoverModel" "NameMoverModel" "at" "I") ∈ xtt := xtt_t (i := 833) (by decide +kernel) (by decide +kernel)
theorem tw_836 : (Cond.methodLink "NameMoverLaw" 79 ⟨"NameMoverModel", "thrown", "()I"⟩) ∈ xtt := xtt_t (i := 836) (by decide +kernel) (by decide +kernel)
theorem tw_837 : (Cond.instanceMethod ⟨"NameMoverModel", "thrown", "()I"⟩) ∈ xtt := xtt_t (i := 837) (by decide +kernel) (by decide +kernel)
theorem tw_838 : (Cond.selects "NameMoverModel" ⟨"NameMoverModel", "thrown", "()I"⟩ ⟨"NameMoverModel", "thrown", "()I"⟩) ∈ xtt := xtt_t (i := 838) (by decide +kernel) (by decide +kernel)
theorem tw_839 : (Cond.code ⟨"NameMoverModel", "thrown", "()I"⟩ prog_11_method_2_code 1 (some .int)) ∈ xtt := xtt_t (i := 839) (by decide +kernel) (by decide +kernel)
theorem tw_840 : (Cond.methodLink "NameMoverLaw" 78 ⟨"NameMoverModel", "declare", "(JIZ)I"⟩) ∈ xtt := xtt_t (i := 840) (by decide +kernel) (by decide +kernel)
theorem tw_841 : (Cond.instanceMethod ⟨"NameMoverModel", "declare", "(JIZ)I"⟩) ∈ xtt := xtt_t (i := 841) (by decide +kernel) (by decide +kernel)
theorem tw_842 : (Cond.selects "NameMoverModel" ⟨"NameMoverModel", "declare", "(JIZ)I"⟩ ⟨"NameMoverModel", "declare", "(JIZ)I"⟩) ∈ xtt := xtt_t (i := 842) (by decide +kernel) (by decide +kernel)
theorem tw_843 : (Cond.code ⟨"NameMoverModel", "declare", "(JIZ)I"⟩ prog_11_method_21_code 5 (some .int)) ∈ xtt := xtt_t (i := 843) (by decide +kernel) (by decide +kernel)
theorem tw_844 : (Cond.methodLink "NameMoverModel" 109 ⟨"NameMoverModel", "isName", "(JZ)Z"⟩) ∈ xtt := xtt_t (i := 844) (by decide +kernel) (by decide +kernel)
theorem tw_845 : (Cond.static ⟨"NameMoverModel", "isName", "(JZ)Z"⟩) ∈ xtt := xtt_t (i := 845) (by decide +kernel) (by decide +kernel)
theorem tw_846 : (Cond.code ⟨"NameMoverModel", "isName", "(JZ)Z"⟩ prog_11_method_8_code 8 (some .boolean)) ∈ xtt := xtt_t (i := 846) (by decide +kernel) (by decide +kernel)
theorem tw_847 : (Cond.methodLink "NameMoverModel" 70 ⟨"NameMoverModel", "length", "(J)I"⟩) ∈ xtt := xtt_t (i := 847) (by decide +kernel) (by decide +kernel)
theorem tw_848 : (Cond.static ⟨"NameMoverModel", "length", "(J)I"⟩) ∈ xtt := xtt_t (i := 848) (by decide +kernel) (by decide +kernel)
theorem tw_849 : (Cond.code ⟨"NameMoverModel", "length", "(J)I"⟩ prog_11_method_4_code 3 (some .int)) ∈ xtt := xtt_t (i := 849) (by decide +kernel) (by decide +kernel)
theorem tw_850 : (Cond.methodLink "NameMoverModel" 66 ⟨"NameMoverModel", "charAt", "(JI)I"⟩) ∈ xtt := xtt_t (i := 850) (by decide +kernel) (by decide +kernel)
theorem tw_851 : (Cond.static ⟨"NameMoverModel", "charAt", "(JI)I"⟩) ∈ xtt := xtt_t (i := 851) (by decide +kernel) (by decide +kernel)
theorem tw_852 : (Cond.code ⟨"NameMoverModel", "charAt", "(JI)I"⟩ prog_11_method_3_code 3 (some .int)) ∈ xtt := xtt_t (i := 852) (by decide +kernel) (by decide +kernel)
theorem tw_853 : (Cond.constantLong "NameMoverModel" 64 (255 : Int64)) ∈ xtt := xtt_t (i := 853) (by decide +kernel) (by decide +kernel)
theorem tw_854 : (Cond.methodLink "NameMoverModel" 74 ⟨"NameMoverModel", "isText", "(J)Z"⟩) ∈ xtt := xtt_t (i := 854) (by decide +kernel) (by decide +kernel)
theorem tw_855 : (Cond.static ⟨"NameMoverModel", "isText", "(J)Z"⟩) ∈ xtt := xtt_t (i := 855) (by decide +kernel) (by decide +kernel)
theorem tw_856 : (Cond.code ⟨"NameMoverModel", "isText", "(J)Z"⟩ prog_11_method_5_code 5 (some .boolean)) ∈ xtt := xtt_t (i := 856) (by decide +kernel) (by decide +kernel)
theorem tw_857 : (Cond.methodLink "NameMoverModel" 78 ⟨"NameMoverModel", "isLetter", "(I)Z"⟩) ∈ xtt := xtt_t (i := 857) (by decide +kernel) (by decide +kernel)
theorem tw_858 : (Cond.static ⟨"NameMoverModel", "isLetter", "(I)Z"⟩) ∈ xtt := xtt_t (i := 858) (by decide +kernel) (by decide +kernel)
theorem tw_859 : (Cond.code ⟨"NameMoverModel", "isLetter", "(I)Z"⟩ prog_11_method_6_code 1 (some .boolean)) ∈ xtt := xtt_t (i := 859) (by decide +kernel) (by decide +kernel)
theorem tw_860 : (Cond.methodLink "NameMoverModel" 82 ⟨"NameMoverModel", "isDigit", "(I)Z"⟩) ∈ xtt := xtt_t (i := 860) (by decide +kernel) (by decide +kernel)
theorem tw_861 : (Cond.static ⟨"NameMoverModel", "isDigit", "(I)Z"⟩) ∈ xtt := xtt_t (i := 861) (by decide +kernel) (by decide +kernel)
theorem tw_862 : (Cond.code ⟨"NameMoverModel", "isDigit", "(I)Z"⟩ prog_11_method_7_code 1 (some .boolean)) ∈ xtt := xtt_t (i := 862) (by decide +kernel) (by decide +kernel)
theorem tw_863 : (Cond.methodLink "NameMoverModel" 102 ⟨"NameMoverModel", "isClass", "(I)Z"⟩) ∈ xtt := xtt_t (i := 863) (by decide +kernel) (by decide +kernel)
theorem tw_865 : (Cond.instanceMethod ⟨"NameMoverModel", "isClass", "(I)Z"⟩) ∈ xtt := xtt_t (i := 865) (by decide +kernel) (by decide +kernel)
theorem tw_866 : (Cond.code ⟨"NameMoverModel", "isClass", "(I)Z"⟩ prog_11_method_15_code 2 (some .boolean)) ∈ xtt := xtt_t (i := 866) (by decide +kernel) (by decide +kernel)
theorem tw_867 : (Cond.methodLink "NameMoverModel" 113 ⟨"NameMoverModel", "moves", "()I"⟩) ∈ xtt := xtt_t (i := 867) (by decide +kernel) (by decide +kernel)
theorem tw_869 : (Cond.instanceMethod ⟨"NameMoverModel", "moves", "()I"⟩) ∈ xtt := xtt_t (i := 869) (by decide +kernel) (by decide +kernel)
theorem tw_870 : (Cond.code ⟨"NameMoverModel", "moves", "()I"⟩ prog_11_method_20_code 4 (some .int)) ∈ xtt := xtt_t (i := 870) (by decide +kernel) (by decide +kernel)
theorem tw_871 : (Cond.methodLink "NameMoverModel" 117 ⟨"NameMoverModel", "named", "(J)I"⟩) ∈ xtt := xtt_t (i := 871) (by decide +kernel) (by decide +kernel)
theorem tw_873 : (Cond.instanceMethod ⟨"NameMoverModel", "named", "(J)I"⟩) ∈ xtt := xtt_t (i := 873) (by decide +kernel) (by decide +kernel)
theorem tw_874 : (Cond.code ⟨"NameMoverModel", "named", "(J)I"⟩ prog_11_method_17_code 5 (some .int)) ∈ xtt := xtt_t (i := 874) (by decide +kernel) (by decide +kernel)
theorem tw_875 : (Cond.methodLink "NameMoverModel" 120 ⟨"NameMoverModel", "put", "(JIZ)V"⟩) ∈ xtt := xtt_t (i := 875) (by decide +kernel) (by decide +kernel)
theorem tw_877 : (Cond.instanceMethod ⟨"NameMoverModel", "put", "(JIZ)V"⟩) ∈ xtt := xtt_t (i := 877) (by decide +kernel) (by decide +kernel)
theorem tw_878 : (Cond.code ⟨"NameMoverModel", "put", "(JIZ)V"⟩ prog_11_method_22_code 5 (none : Option FieldType)) ∈ xtt := xtt_t (i := 878) (by decide +kernel) (by decide +kernel)
theorem tw_879 : (Cond.methodLink "NameMoverLaw" 85 ⟨"NameMoverModel", "member", "(IJJZ)I"⟩) ∈ xtt := xtt_t (i := 879) (by decide +kernel) (by decide +kernel)
theorem tw_880 : (Cond.instanceMethod ⟨"NameMoverModel", "member", "(IJJZ)I"⟩) ∈ xtt := xtt_t (i := 880) (by decide +kernel) (by decide +kernel)
theorem tw_881 : (Cond.selects "NameMoverModel" ⟨"NameMoverModel", "member", "(IJJZ)I"⟩ ⟨"NameMoverModel", "member", "(IJJZ)I"⟩) ∈ xtt := xtt_t (i := 881) (by decide +kernel) (by decide +kernel)
theorem tw_882 : (Cond.code ⟨"NameMoverModel", "member", "(IJJZ)I"⟩ prog_11_method_25_code 7 (some .int)) ∈ xtt := xtt_t (i := 882) (by decide +kernel) (by decide +kernel)
theorem tw_883 : (Cond.methodLink "NameMoverModel" 124 ⟨"NameMoverModel", "isDescriptor", "(JI)Z"⟩) ∈ xtt := xtt_t (i := 883) (by decide +kernel) (by decide +kernel)
theorem tw_885 : (Cond.instanceMethod ⟨"NameMoverModel", "isDescriptor", "(JI)Z"⟩) ∈ xtt := xtt_t (i := 885) (by decide +kernel) (by decide +kernel)
theorem tw_886 : (Cond.code ⟨"NameMoverModel", "isDescriptor", "(JI)Z"⟩ prog_11_method_13_code 5 (some .boolean)) ∈ xtt := xtt_t (i := 886) (by decide +kernel) (by decide +kernel)
theorem tw_887 : (Cond.methodLink "NameMoverModel" 95 ⟨"NameMoverModel", "type", "(JI)Z"⟩) ∈ xtt := xtt_t (i := 887) (by decide +kernel) (by decide +kernel)
theorem tw_889 : (Cond.instanceMethod ⟨"NameMoverModel", "type", "(JI)Z"⟩) ∈ xtt := xtt_t (i := 889) (by decide +kernel) (by decide +kernel)
theorem tw_890 : (Cond.code ⟨"NameMoverModel", "type", "(JI)Z"⟩ prog_11_method_12_code 5 (some .boolean)) ∈ xtt := xtt_t (i := 890) (by decide +kernel) (by decide +kernel)
theorem tw_891 : (Cond.methodLink "NameMoverModel" 127 ⟨"NameMoverModel", "has", "(IJJ)I"⟩) ∈ xtt := xtt_t (i := 891) (by decide +kernel) (by decide +kernel)
theorem tw_893 : (Cond.instanceMethod ⟨"NameMoverModel", "has", "(IJJ)I"⟩) ∈ xtt := xtt_t (i := 893) (by decide +kernel) (by decide +kernel)
theorem tw_894 : (Cond.code ⟨"NameMoverModel", "has", "(IJJ)I"⟩ prog_11_method_23_code 8 (some .int)) ∈ xtt := xtt_t (i := 894) (by decide +kernel) (by decide +kernel)
theorem tw_895 : (Cond.methodLink "NameMoverModel" 131 ⟨"NameMoverModel", "putMember", "(IJJZ)V"⟩) ∈ xtt := xtt_t (i := 895) (by decide +kernel) (by decide +kernel)
theorem tw_897 : (Cond.instanceMethod ⟨"NameMoverModel", "putMember", "(IJJZ)V"⟩) ∈ xtt := xtt_t (i := 897) (by decide +kernel) (by decide +kernel)
theorem tw_898 : (Cond.code ⟨"NameMoverModel", "putMember", "(IJJZ)V"⟩ prog_11_method_24_code 8 (none : Option FieldType)) ∈ xtt := xtt_t (i := 898) (by decide +kernel) (by decide +kernel)
theorem tw_899 : (Cond.methodLink "NameMoverLaw" 89 ⟨"NameMoverModel", "moveClass", "(IJ)V"⟩) ∈ xtt := xtt_t (i := 899) (by decide +kernel) (by decide +kernel)
theorem tw_900 : (Cond.instanceMethod ⟨"NameMoverModel", "moveClass", "(IJ)V"⟩) ∈ xtt := xtt_t (i := 900) (by decide +kernel) (by decide +kernel)
theorem tw_901 : (Cond.selects "NameMoverModel" ⟨"NameMoverModel", "moveClass", "(IJ)V"⟩ ⟨"NameMoverModel", "moveClass", "(IJ)V"⟩) ∈ xtt := xtt_t (i := 901) (by decide +kernel) (by decide +kernel)
theorem tw_902 : (Cond.code ⟨"NameMoverModel", "moveClass", "(IJ)V"⟩ prog_11_method_26_code 4 (none : Option FieldType)) ∈ xtt := xtt_t (i := 902) (by decide +kernel) (by decide +kernel)
theorem tw_903 : (Cond.methodLink "NameMoverLaw" 93 ⟨"NameMoverModel", "movePackage", "(JJ)I"⟩) ∈ xtt := xtt_t (i := 903) (by decide +kernel) (by decide +kernel)
theorem tw_904 : (Cond.instanceMethod ⟨"NameMoverModel", "movePackage", "(JJ)I"⟩) ∈ xtt := xtt_t (i := 904) (by decide +kernel) (by decide +kernel)
theorem tw_905 : (Cond.selects "NameMoverModel" ⟨"NameMoverModel", "movePackage", "(JJ)I"⟩ ⟨"NameMoverModel", "movePackage", "(JJ)I"⟩) ∈ xtt := xtt_t (i := 905) (by decide +kernel) (by decide +kernel)
theorem tw_906 : (Cond.code ⟨"NameMoverModel", "movePackage", "(JJ)I"⟩ prog_11_method_28_code 9 (some .int)) ∈ xtt := xtt_t (i := 906) (by decide +kernel) (by decide +kernel)
theorem tw_907 : (Cond.methodLink "NameMoverModel" 137 ⟨"NameMoverModel", "packageOf", "(J)J"⟩) ∈ xtt := xtt_t (i := 907) (by decide +kernel) (by decide +kernel)
theorem tw_908 : (Cond.static ⟨"NameMoverModel", "packageOf", "(J)J"⟩) ∈ xtt := xtt_t (i := 908) (by decide +kernel) (by decide +kernel)
theorem tw_909 : (Cond.code ⟨"NameMoverModel", "packageOf", "(J)J"⟩ prog_11_method_11_code 3 (some .long)) ∈ xtt := xtt_t (i := 909) (by decide +kernel) (by decide +kernel)
theorem tw_910 : (Cond.methodLink "NameMoverModel" 85 ⟨"NameMoverModel", "lastPart", "(J)I"⟩) ∈ xtt := xtt_t (i := 910) (by decide +kernel) (by decide +kernel)
theorem tw_911 : (Cond.static ⟨"NameMoverModel", "lastPart", "(J)I"⟩) ∈ xtt := xtt_t (i := 911) (by decide +kernel) (by decide +kernel)
theorem tw_912 : (Cond.code ⟨"NameMoverModel", "lastPart", "(J)I"⟩ prog_11_method_9_code 4 (some .int)) ∈ xtt := xtt_t (i := 912) (by decide +kernel) (by decide +kernel)
theorem tw_913 : (Cond.methodLink "NameMoverModel" 88 ⟨"NameMoverModel", "front", "(JI)J"⟩) ∈ xtt := xtt_t (i := 913) (by decide +kernel) (by decide +kernel)
theorem tw_914 : (Cond.static ⟨"NameMoverModel", "front", "(JI)J"⟩) ∈ xtt := xtt_t (i := 914) (by decide +kernel) (by decide +kernel)
theorem tw_915 : (Cond.code ⟨"NameMoverModel", "front", "(JI)J"⟩ prog_11_method_10_code 6 (some .long)) ∈ xtt := xtt_t (i := 915) (by decide +kernel) (by decide +kernel)
theorem tw_916 : (Cond.methodLink "NameMoverModel" 141 ⟨"NameMoverModel", "withPackage", "(JJ)J"⟩) ∈ xtt := xtt_t (i := 916) (by decide +kernel) (by decide +kernel)
theorem tw_917 : (Cond.static ⟨"NameMoverModel", "withPackage", "(JJ)J"⟩) ∈ xtt := xtt_t (i := 917) (by decide +kernel) (by decide +kernel)
theorem tw_918 : (Cond.code ⟨"NameMoverModel", "withPackage", "(JJ)J"⟩ prog_11_method_27_code 11 (some .long)) ∈ xtt := xtt_t (i := 918) (by decide +kernel) (by decide +kernel)
theorem tw_919 : (Cond.constantLong "NameMoverModel" 135 (47 : Int64)) ∈ xtt := xtt_t (i := 919) (by decide +kernel) (by decide +kernel)
theorem tw_920 : (Cond.methodLink "NameMoverLaw" 97 ⟨"NameMoverModel", "moveMember", "(IIJ)I"⟩) ∈ xtt := xtt_t (i := 920) (by decide +kernel) (by decide +kernel)
theorem tw_921 : (Cond.instanceMethod ⟨"NameMoverModel", "moveMember", "(IIJ)I"⟩) ∈ xtt := xtt_t (i := 921) (by decide +kernel) (by decide +kernel)
theorem tw_922 : (Cond.selects "NameMoverModel" ⟨"NameMoverModel", "moveMember", "(IIJ)I"⟩ ⟨"NameMoverModel", "moveMember", "(IIJ)I"⟩) ∈ xtt := xtt_t (i := 922) (by decide +kernel) (by decide +kernel)
theorem tw_923 : (Cond.code ⟨"NameMoverModel", "moveMember", "(IIJ)I"⟩ prog_11_method_31_code 7 (some .int)) ∈ xtt := xtt_t (i := 923) (by decide +kernel) (by decide +kernel)
theorem tw_924 : (Cond.methodLink "NameMoverModel" 154 ⟨"NameMoverModel", "isMember", "(II)Z"⟩) ∈ xtt := xtt_t (i := 924) (by decide +kernel) (by decide +kernel)
theorem tw_926 : (Cond.instanceMethod ⟨"NameMoverModel", "isMember", "(II)Z"⟩) ∈ xtt := xtt_t (i := 926) (by decide +kernel) (by decide +kernel)
theorem tw_927 : (Cond.code ⟨"NameMoverModel", "isMember", "(II)Z"⟩ prog_11_method_16_code 3 (some .boolean)) ∈ xtt := xtt_t (i := 927) (by decide +kernel) (by decide +kernel)
theorem tw_928 : (Cond.methodLink "NameMoverModel" 157 ⟨"NameMoverModel", "family", "(I)I"⟩) ∈ xtt := xtt_t (i := 928) (by decide +kernel) (by decide +kernel)
theorem tw_930 : (Cond.instanceMethod ⟨"NameMoverModel", "family", "(I)I"⟩) ∈ xtt := xtt_t (i := 930) (by decide +kernel) (by decide +kernel)
theorem tw_931 : (Cond.code ⟨"NameMoverModel", "family", "(I)I"⟩ prog_11_method_30_code 7 (some .int)) ∈ xtt := xtt_t (i := 931) (by decide +kernel) (by decide +kernel)
theorem tw_932 : (Cond.methodLink "NameMoverModel" 151 ⟨"NameMoverModel", "override", "(II)Z"⟩) ∈ xtt := xtt_t (i := 932) (by decide +kernel) (by decide +kernel)
theorem tw_934 : (Cond.instanceMethod ⟨"NameMoverModel", "override", "(II)Z"⟩) ∈ xtt := xtt_t (i := 934) (by decide +kernel) (by decide +kernel)
theorem tw_935 : (Cond.code ⟨"NameMoverModel", "override", "(II)Z"⟩ prog_11_method_29_code 4 (some .boolean)) ∈ xtt := xtt_t (i := 935) (by decide +kernel) (by decide +kernel)
theorem tw_936 : (Cond.methodLink "NameMoverModel" 145 ⟨"NameMoverModel", "isMethod", "(I)Z"⟩) ∈ xtt := xtt_t (i := 936) (by decide +kernel) (by decide +kernel)
theorem tw_938 : (Cond.instanceMethod ⟨"NameMoverModel", "isMethod", "(I)Z"⟩) ∈ xtt := xtt_t (i := 938) (by decide +kernel) (by decide +kernel)
theorem tw_939 : (Cond.code ⟨"NameMoverModel", "isMethod", "(I)Z"⟩ prog_11_method_14_code 2 (some .boolean)) ∈ xtt := xtt_t (i := 939) (by decide +kernel) (by decide +kernel)
theorem tw_940 : (Cond.methodLink "NameMoverModel" 148 ⟨"NameMoverModel", "areRelated", "(II)Z"⟩) ∈ xtt := xtt_t (i := 940) (by decide +kernel) (by decide +kernel)
theorem tw_942 : (Cond.instanceMethod ⟨"NameMoverModel", "areRelated", "(II)Z"⟩) ∈ xtt := xtt_t (i := 942) (by decide +kernel) (by decide +kernel)
theorem tw_943 : (Cond.code ⟨"NameMoverModel", "areRelated", "(II)Z"⟩ prog_11_method_19_code 3 (some .boolean)) ∈ xtt := xtt_t (i := 943) (by decide +kernel) (by decide +kernel)
theorem tw_944 : (Cond.methodLink "NameMoverModel" 105 ⟨"NameMoverModel", "isAbove", "(II)Z"⟩) ∈ xtt := xtt_t (i := 944) (by decide +kernel) (by decide +kernel)
theorem tw_946 : (Cond.instanceMethod ⟨"NameMoverModel", "isAbove", "(II)Z"⟩) ∈ xtt := xtt_t (i := 946) (by decide +kernel) (by decide +kernel)
theorem tw_947 : (Cond.code ⟨"NameMoverModel", "isAbove", "(II)Z"⟩ prog_11_method_18_code 4 (some .boolean)) ∈ xtt := xtt_t (i := 947) (by decide +kernel) (by decide +kernel)
theorem tw_948 : (Cond.methodLink "NameMoverLaw" 101 ⟨"NameMoverModel", "problem", "()I"⟩) ∈ xtt := xtt_t (i := 948) (by decide +kernel) (by decide +kernel)
theorem tw_949 : (Cond.instanceMethod ⟨"NameMoverModel", "problem", "()I"⟩) ∈ xtt := xtt_t (i := 949) (by decide +kernel) (by decide +kernel)
theorem tw_950 : (Cond.selects "NameMoverModel" ⟨"NameMoverModel", "problem", "()I"⟩ ⟨"NameMoverModel", "problem", "()I"⟩) ∈ xtt := xtt_t (i := 950) (by decide +kernel) (by decide +kernel)
theorem tw_951 : (Cond.code ⟨"NameMoverModel", "problem", "()I"⟩ prog_11_method_36_code 1 (some .int)) ∈ xtt := xtt_t (i := 951) (by decide +kernel) (by decide +kernel)
theorem tw_952 : (Cond.methodLink "NameMoverModel" 171 ⟨"NameMoverModel", "trouble", "()I"⟩) ∈ xtt := xtt_t (i := 952) (by decide +kernel) (by decide +kernel)
theorem tw_954 : (Cond.instanceMethod ⟨"NameMoverModel", "trouble", "()I"⟩) ∈ xtt := xtt_t (i := 954) (by decide +kernel) (by decide +kernel)
theorem tw_955 : (Cond.code ⟨"NameMoverModel", "trouble", "()I"⟩ prog_11_method_35_code 5 (some .int)) ∈ xtt := xtt_t (i := 955) (by decide +kernel) (by decide +kernel)
theorem tw_956 : (Cond.methodLink "NameMoverModel" 161 ⟨"NameMoverModel", "isThere", "(I)Z"⟩) ∈ xtt := xtt_t (i := 956) (by decide +kernel) (by decide +kernel)
theorem tw_958 : (Cond.instanceMethod ⟨"NameMoverModel", "isThere", "(I)Z"⟩) ∈ xtt := xtt_t (i := 958) (by decide +kernel) (by decide +kernel)
theorem tw_959 : (Cond.code ⟨"NameMoverModel", "isThere", "(I)Z"⟩ prog_11_method_32_code 2 (some .boolean)) ∈ xtt := xtt_t (i := 959) (by decide +kernel) (by decide +kernel)
theorem tw_960 : (Cond.methodLink "NameMoverModel" 164 ⟨"NameMoverModel", "parts", "(II)Z"⟩) ∈ xtt := xtt_t (i := 960) (by decide +kernel) (by decide +kernel)
theorem tw_962 : (Cond.instanceMethod ⟨"NameMoverModel", "parts", "(II)Z"⟩) ∈ xtt := xtt_t (i := 962) (by decide +kernel) (by decide +kernel)
theorem tw_963 : (Cond.code ⟨"NameMoverModel", "parts", "(II)Z"⟩ prog_11_method_34_code 3 (some .boolean)) ∈ xtt := xtt_t (i := 963) (by decide +kernel) (by decide +kernel)
theorem tw_964 : (Cond.methodLink "NameMoverModel" 167 ⟨"NameMoverModel", "meet", "(II)Z"⟩) ∈ xtt := xtt_t (i := 964) (by decide +kernel) (by decide +kernel)
theorem tw_966 : (Cond.instanceMethod ⟨"NameMoverModel", "meet", "(II)Z"⟩) ∈ xtt := xtt_t (i := 966) (by decide +kernel) (by decide +kernel)
theorem tw_967 : (Cond.code ⟨"NameMoverModel", "meet", "(II)Z"⟩ prog_11_method_33_code 3 (some .boolean)) ∈ xtt := xtt_t (i := 967) (by decide +kernel) (by decide +kernel)
theorem tw_968 : (Cond.constant "NameMoverModel" 170 (50000 : Int32)) ∈ xtt := xtt_t (i := 968) (by decide +kernel) (by decide +kernel)
theorem tw_969 : (Cond.methodLink "NameMoverLaw" 105 ⟨"NameMoverModel", "apply", "()I"⟩) ∈ xtt := xtt_t (i := 969) (by decide +kernel) (by decide +kernel)
theorem tw_970 : (Cond.instanceMethod ⟨"NameMoverModel", "apply", "()I"⟩) ∈ xtt := xtt_t (i := 970) (by decide +kernel) (by decide +kernel)
theorem tw_971 : (Cond.selects "NameMoverModel" ⟨"NameMoverModel", "apply", "()I"⟩ ⟨"NameMoverModel", "apply", "()I"⟩) ∈ xtt := xtt_t (i := 971) (by decide +kernel) (by decide +kernel)
theorem tw_972 : (Cond.code ⟨"NameMoverModel", "apply", "()I"⟩ prog_11_method_37_code 3 (some .int)) ∈ xtt := xtt_t (i := 972) (by decide +kernel) (by decide +kernel)
theorem tw_973 : (Cond.methodLink "NameMoverLaw" 109 ⟨"NameMoverModel", "cancel", "()I"⟩) ∈ xtt := xtt_t (i := 973) (by decide +kernel) (by decide +kernel)
theorem tw_974 : (Cond.instanceMethod ⟨"NameMoverModel", "cancel", "()I"⟩) ∈ xtt := xtt_t (i := 974) (by decide +kernel) (by decide +kernel)
theorem tw_975 : (Cond.selects "NameMoverModel" ⟨"NameMoverModel", "cancel", "()I"⟩ ⟨"NameMoverModel", "cancel", "()I"⟩) ∈ xtt := xtt_t (i := 975) (by decide +kernel) (by decide +kernel)
theorem tw_976 : (Cond.code ⟨"NameMoverModel", "cancel", "()I"⟩ prog_11_method_38_code 3 (some .int)) ∈ xtt := xtt_t (i := 976) (by decide +kernel) (by decide +kernel)
theorem tw_977 : (Cond.methodLink "NameMoverLaw" 113 ⟨"NameMoverModel", "classes", "()I"⟩) ∈ xtt := xtt_t (i := 977) (by decide +kernel) (by decide +kernel)
theorem tw_978 : (Cond.instanceMethod ⟨"NameMoverModel", "classes", "()I"⟩) ∈ xtt := xtt_t (i := 978) (by decide +kernel) (by decide +kernel)
theorem tw_979 : (Cond.selects "NameMoverModel" ⟨"NameMoverModel", "classes", "()I"⟩ ⟨"NameMoverModel", "classes", "()I"⟩) ∈ xtt := xtt_t (i := 979) (by decide +kernel) (by decide +kernel)
theorem tw_980 : (Cond.code ⟨"NameMoverModel", "classes", "()I"⟩ prog_11_method_39_code 1 (some .int)) ∈ xtt := xtt_t (i := 980) (by decide +kernel) (by decide +kernel)
theorem tw_981 : (Cond.methodLink "NameMoverLaw" 117 ⟨"NameMoverModel", "className", "(IZ)J"⟩) ∈ xtt := xtt_t (i := 981) (by decide +kernel) (by decide +kernel)
theorem tw_982 : (Cond.instanceMethod ⟨"NameMoverModel", "className", "(IZ)J"⟩) ∈ xtt := xtt_t (i := 982) (by decide +kernel) (by decide +kernel)
theorem tw_983 : (Cond.selects "NameMoverModel" ⟨"NameMoverModel", "className", "(IZ)J"⟩ ⟨"NameMoverModel", "className", "(IZ)J"⟩) ∈ xtt := xtt_t (i := 983) (by decide +kernel) (by decide +kernel)
theorem tw_984 : (Cond.code ⟨"NameMoverModel", "className", "(IZ)J"⟩ prog_11_method_40_code 3 (some .long)) ∈ xtt := xtt_t (i := 984) (by decide +kernel) (by decide +kernel)
theorem tw_985 : (Cond.methodLink "NameMoverLaw" 121 ⟨"NameMoverModel", "memberName", "(IIZ)J"⟩) ∈ xtt := xtt_t (i := 985) (by decide +kernel) (by decide +kernel)
theorem tw_986 : (Cond.instanceMethod ⟨"NameMoverModel", "memberName", "(IIZ)J"⟩) ∈ xtt := xtt_t (i := 986) (by decide +kernel) (by decide +kernel)
theorem tw_987 : (Cond.selects "NameMoverModel" ⟨"NameMoverModel", "memberName", "(IIZ)J"⟩ ⟨"NameMoverModel", "memberName", "(IIZ)J"⟩) ∈ xtt := xtt_t (i := 987) (by decide +kernel) (by decide +kernel)
theorem tw_988 : (Cond.code ⟨"NameMoverModel", "memberName", "(IIZ)J"⟩ prog_11_method_41_code 4 (some .long)) ∈ xtt := xtt_t (i := 988) (by decide +kernel) (by decide +kernel)
theorem tw_989 : (Cond.methodLink "NameMoverLaw" 125 ⟨"NameMoverModel", "find", "(IJJ)I"⟩) ∈ xtt := xtt_t (i := 989) (by decide +kernel) (by decide +kernel)
theorem tw_990 : (Cond.instanceMethod ⟨"NameMoverModel", "find", "(IJJ)I"⟩) ∈ xtt := xtt_t (i := 990) (by decide +kernel) (by decide +kernel)
theorem tw_991 : (Cond.selects "NameMoverModel" ⟨"NameMoverModel", "find", "(IJJ)I"⟩ ⟨"NameMoverModel", "find", "(IJJ)I"⟩) ∈ xtt := xtt_t (i := 991) (by decide +kernel) (by decide +kernel)
theorem tw_992 : (Cond.code ⟨"NameMoverModel", "find", "(IJJ)I"⟩ prog_11_method_42_code 8 (some .int)) ∈ xtt := xtt_t (i := 992) (by decide +kernel) (by decide +kernel)
theorem tw_993 : (Cond.methodLink "NameMoverLaw" 129 ⟨"NameMoverModel", "write", "(I)I"⟩) ∈ xtt := xtt_t (i := 993) (by decide +kernel) (by decide +kernel)
theorem tw_994 : (Cond.instanceMethod ⟨"NameMoverModel", "write", "(I)I"⟩) ∈ xtt := xtt_t (i := 994) (by decide +kernel) (by decide +kernel)
theorem tw_995 : (Cond.selects "NameMoverModel" ⟨"NameMoverModel", "write", "(I)I"⟩ ⟨"NameMoverModel", "write", "(I)I"⟩) ∈ xtt := xtt_t (i := 995) (by decide +kernel) (by decide +kernel)
theorem tw_996 : (Cond.code ⟨"NameMoverModel", "write", "(I)I"⟩ prog_11_method_49_code 3 (some .int)) ∈ xtt := xtt_t (i := 996) (by decide +kernel) (by decide +kernel)
theorem tw_997 : (Cond.methodLink "NameMoverModel" 200 ⟨"NameMoverModel", "make", "(I)V"⟩) ∈ xtt := xtt_t (i := 997) (by decide +kernel) (by decide +kernel)
theorem tw_999 : (Cond.instanceMethod ⟨"NameMoverModel", "make", "(I)V"⟩) ∈ xtt := xtt_t (i := 999) (by decide +kernel) (by decide +kernel)
theorem tw_1000 : (Cond.code ⟨"NameMoverModel", "make", "(I)V"⟩ prog_11_method_48_code 4 (none : Option FieldType)) ∈ xtt := xtt_t (i := 1000) (by decide +kernel) (by decide +kernel)
theorem tw_1001 : (Cond.methodLink "NameMoverModel" 190 ⟨"NameMoverModel", "nameInPool", "(J)I"⟩) ∈ xtt := xtt_t (i := 1001) (by decide +kernel) (by decide +kernel)
theorem tw_1003 : (Cond.instanceMethod ⟨"NameMoverModel", "nameInPool", "(J)I"⟩) ∈ xtt := xtt_t (i := 1003) (by decide +kernel) (by decide +kernel)
theorem tw_1004 : (Cond.code ⟨"NameMoverModel", "nameInPool", "(J)I"⟩ prog_11_method_45_code 3 (some .int)) ∈ xtt := xtt_t (i := 1004) (by decide +kernel) (by decide +kernel)
theorem tw_1005 : (Cond.methodLink "NameMoverModel" 180 ⟨"NameMoverModel", "spell", "(J)V"⟩) ∈ xtt := xtt_t (i := 1005) (by decide +kernel) (by decide +kernel)
theorem tw_1007 : (Cond.instanceMethod ⟨"NameMoverModel", "spell", "(J)V"⟩) ∈ xtt := xtt_t (i := 1007) (by decide +kernel) (by decide +kernel)
theorem tw_1008 : (Cond.code ⟨"NameMoverModel", "spell", "(J)V"⟩ prog_11_method_44_code 5 (none : Option FieldType)) ∈ xtt := xtt_t (i := 1008) (by decide +kernel) (by decide +kernel)
theorem tw_1009 : (Cond.methodLink "NameMoverModel" 184 ⟨"NameMoverModel", "pooled", "()I"⟩) ∈ xtt := xtt_t (i := 1009) (by decide +kernel) (by decide +kernel)
theorem tw_1011 : (Cond.instanceMethod ⟨"NameMoverModel", "pooled", "()I"⟩) ∈ xtt := xtt_t (i := 1011) (by decide +kernel) (by decide +kernel)
theorem tw_1012 : (Cond.code ⟨"NameMoverModel", "pooled", "()I"⟩ prog_11_method_43_code 4 (some .int)) ∈ xtt := xtt_t (i := 1012) (by decide +kernel) (by decide +kernel)
theorem tw_1013 : (Cond.methodLink "NameMoverModel" 193 ⟨"NameMoverModel", "descriptorInPool", "(J)I"⟩) ∈ xtt := xtt_t (i := 1013) (by decide +kernel) (by decide +kernel)
theorem tw_1015 : (Cond.instanceMethod ⟨"NameMoverModel", "descriptorInPool", "(J)I"⟩) ∈ xtt := xtt_t (i := 1015) (by decide +kernel) (by decide +kernel)
theorem tw_1016 : (Cond.code ⟨"NameMoverModel", "descriptorInPool", "(J)I"⟩ prog_11_method_46_code 6 (some .int)) ∈ xtt := xtt_t (i := 1016) (by decide +kernel) (by decide +kernel)
theorem tw_1017 : (Cond.methodLink "NameMoverModel" 196 ⟨"NameMoverModel", "emit", "(I)V"⟩) ∈ xtt := xtt_t (i := 1017) (by decide +kernel) (by decide +kernel)
theorem tw_1019 : (Cond.instanceMethod ⟨"NameMoverModel", "emit", "(I)V"⟩) ∈ xtt := xtt_t (i := 1019) (by decide +kernel) (by decide +kernel)
theorem tw_1020 : (Cond.code ⟨"NameMoverModel", "emit", "(I)V"⟩ prog_11_method_47_code 2 (none : Option FieldType)) ∈ xtt := xtt_t (i := 1020) (by decide +kernel) (by decide +kernel)
theorem tw_1021 : (Cond.methodLink "NameMoverLaw" 132 ⟨"NameMoverModel", "byteAt", "(I)I"⟩) ∈ xtt := xtt_t (i := 1021) (by decide +kernel) (by decide +kernel)
theorem tw_1022 : (Cond.instanceMethod ⟨"NameMoverModel", "byteAt", "(I)I"⟩) ∈ xtt := xtt_t (i := 1022) (by decide +kernel) (by decide +kernel)
theorem tw_1023 : (Cond.selects "NameMoverModel" ⟨"NameMoverModel", "byteAt", "(I)I"⟩ ⟨"NameMoverModel", "byteAt", "(I)I"⟩) ∈ xtt := xtt_t (i := 1023) (by decide +kernel) (by decide +kernel)
theorem tw_1024 : (Cond.code ⟨"NameMoverModel", "byteAt", "(I)I"⟩ prog_11_method_50_code 2 (some .int)) ∈ xtt := xtt_t (i := 1024) (by decide +kernel) (by decide +kernel)
theorem tw_1025 : (Cond.methodLink "NameMoverLaw" 136 ⟨"NameMoverModel", "poke", "(II)V"⟩) ∈ xtt := xtt_t (i := 1025) (by decide +kernel) (by decide +kernel)
theorem tw_1026 : (Cond.instanceMethod ⟨"NameMoverModel", "poke", "(II)V"⟩) ∈ xtt := xtt_t (i := 1026) (by decide +kernel) (by decide +kernel)
theorem tw_1027 : (Cond.selects "NameMoverModel" ⟨"NameMoverModel", "poke", "(II)V"⟩ ⟨"NameMoverModel", "poke", "(II)V"⟩) ∈ xtt := xtt_t (i := 1027) (by decide +kernel) (by decide +kernel)
theorem tw_1028 : (Cond.code ⟨"NameMoverModel", "poke", "(II)V"⟩ prog_11_method_51_code 3 (none : Option FieldType)) ∈ xtt := xtt_t (i := 1028) (by decide +kernel) (by decide +kernel)
theorem tw_1029 : (Cond.methodLink "NameMoverLaw" 139 ⟨"NameMoverModel", "load", "()I"⟩) ∈ xtt := xtt_t (i := 1029) (by decide +kernel) (by decide +kernel)
theorem tw_1030 : (Cond.instanceMethod ⟨"NameMoverModel", "load", "()I"⟩) ∈ xtt := xtt_t (i := 1030) (by decide +kernel) (by decide +kernel)
theorem tw_1031 : (Cond.selects "NameMoverModel" ⟨"NameMoverModel", "load", "()I"⟩ ⟨"NameMoverModel", "load", "()I"⟩) ∈ xtt := xtt_t (i := 1031) (by decide +kernel) (by decide +kernel)
theorem tw_1032 : (Cond.code ⟨"NameMoverModel", "load", "()I"⟩ prog_11_method_60_code 3 (some .int)) ∈ xtt := xtt_t (i := 1032) (by decide +kernel) (by decide +kernel)
theorem tw_1033 : (Cond.methodLink "NameMoverModel" 230 ⟨"NameMoverModel", "readClass", "()Z"⟩) ∈ xtt := xtt_t (i := 1033) (by decide +kernel) (by decide +kernel)
theorem tw_1035 : (Cond.instanceMethod ⟨"NameMoverModel", "readClass", "()Z"⟩) ∈ xtt := xtt_t (i := 1035) (by decide +kernel) (by decide +kernel)
theorem tw_1036 : (Cond.code ⟨"NameMoverModel", "readClass", "()Z"⟩ prog_11_method_59_code 8 (some .boolean)) ∈ xtt := xtt_t (i := 1036) (by decide +kernel) (by decide +kernel)
theorem tw_1037 : (Cond.methodLink "NameMoverModel" 223 ⟨"NameMoverModel", "readPool", "()Z"⟩) ∈ xtt := xtt_t (i := 1037) (by decide +kernel) (by decide +kernel)
theorem tw_1039 : (Cond.instanceMethod ⟨"NameMoverModel", "readPool", "()Z"⟩) ∈ xtt := xtt_t (i := 1039) (by decide +kernel) (by decide +kernel)
theorem tw_1040 : (Cond.code ⟨"NameMoverModel", "readPool", "()Z"⟩ prog_11_method_53_code 4 (some .boolean)) ∈ xtt := xtt_t (i := 1040) (by decide +kernel) (by decide +kernel)
theorem tw_1041 : (Cond.methodLink "NameMoverModel" 206 ⟨"NameMoverModel", "next", "()I"⟩) ∈ xtt := xtt_t (i := 1041) (by decide +kernel) (by decide +kernel)
theorem tw_1043 : (Cond.instanceMethod ⟨"NameMoverModel", "next", "()I"⟩) ∈ xtt := xtt_t (i := 1043) (by decide +kernel) (by decide +kernel)
theorem tw_1044 : (Cond.code ⟨"NameMoverModel", "next", "()I"⟩ prog_11_method_52_code 1 (some .int)) ∈ xtt := xtt_t (i := 1044) (by decide +kernel) (by decide +kernel)
theorem tw_1045 : (Cond.methodLink "NameMoverModel" 213 ⟨"NameMoverModel", "textOf", "(I)J"⟩) ∈ xtt := xtt_t (i := 1045) (by decide +kernel) (by decide +kernel)
theorem tw_1047 : (Cond.instanceMethod ⟨"NameMoverModel", "textOf", "(I)J"⟩) ∈ xtt := xtt_t (i := 1047) (by decide +kernel) (by decide +kernel)
theorem tw_1048 : (Cond.code ⟨"NameMoverModel", "textOf", "(I)J"⟩ prog_11_method_54_code 5 (some .long)) ∈ xtt := xtt_t (i := 1048) (by decide +kernel) (by decide +kernel)
theorem tw_1049 : (Cond.methodLink "NameMoverModel" 227 ⟨"NameMoverModel", "readMembers", "(I)Z"⟩) ∈ xtt := xtt_t (i := 1049) (by decide +kernel) (by decide +kernel)
theorem tw_1051 : (Cond.instanceMethod ⟨"NameMoverModel", "readMembers", "(I)Z"⟩) ∈ xtt := xtt_t (i := 1051) (by decide +kernel) (by decide +kernel)
theorem tw_1052 : (Cond.code ⟨"NameMoverModel", "readMembers", "(I)Z"⟩ prog_11_method_57_code 8 (some .boolean)) ∈ xtt := xtt_t (i := 1052) (by decide +kernel) (by decide +kernel)
theorem tw_1053 : (Cond.methodLink "NameMoverModel" 217 ⟨"NameMoverModel", "descriptorOf", "(I)J"⟩) ∈ xtt := xtt_t (i := 1053) (by decide +kernel) (by decide +kernel)
theorem tw_1055 : (Cond.instanceMethod ⟨"NameMoverModel", "descriptorOf", "(I)J"⟩) ∈ xtt := xtt_t (i := 1055) (by decide +kernel) (by decide +kernel)
theorem tw_1056 : (Cond.code ⟨"NameMoverModel", "descriptorOf", "(I)J"⟩ prog_11_method_56_code 9 (some .long)) ∈ xtt := xtt_t (i := 1056) (by decide +kernel) (by decide +kernel)
theorem tw_1057 : (Cond.methodLink "NameMoverModel" 209 ⟨"NameMoverModel", "written", "(II)I"⟩) ∈ xtt := xtt_t (i := 1057) (by decide +kernel) (by decide +kernel)
theorem tw_1059 : (Cond.instanceMethod ⟨"NameMoverModel", "written", "(II)I"⟩) ∈ xtt := xtt_t (i := 1059) (by decide +kernel) (by decide +kernel)
theorem tw_1060 : (Cond.code ⟨"NameMoverModel", "written", "(II)I"⟩ prog_11_method_55_code 6 (some .int)) ∈ xtt := xtt_t (i := 1060) (by decide +kernel) (by decide +kernel)
theorem tw_1061 : (Cond.methodLink "NameMoverModel" 220 ⟨"NameMoverModel", "isDescriptorOfFile", "(J)Z"⟩) ∈ xtt := xtt_t (i := 1061) (by decide +kernel) (by decide +kernel)
theorem tw_1063 : (Cond.instanceMethod ⟨"NameMoverModel", "isDescriptorOfFile", "(J)Z"⟩) ∈ xtt := xtt_t (i := 1063) (by decide +kernel) (by decide +kernel)
theorem tw_1064 : (Cond.code ⟨"NameMoverModel", "isDescriptorOfFile", "(J)Z"⟩ prog_11_method_58_code 5 (some .boolean)) ∈ xtt := xtt_t (i := 1064) (by decide +kernel) (by decide +kernel)
theorem tw_1065 : (Cond.constantLong "NameMoverLaw" 71 (4294967295 : Int64)) ∈ xtt := xtt_t (i := 1065) (by decide +kernel) (by decide +kernel)
theorem tin_N {c : Cond} : ∀ w ∈ u_ws RN FN 6, w ∈ c :: xtt := fun w hw => tc ((show ∀ w ∈ u_ws RN FN 6, w ∈ xtt from List.forall_mem_cons.mpr ⟨tw_156, List.forall_mem_cons.mpr ⟨tw_158, List.forall_mem_cons.mpr ⟨tw_160, List.forall_mem_cons.mpr ⟨tw_162, List.forall_mem_cons.mpr ⟨tw_164, List.forall_mem_cons.mpr ⟨tw_166, fun _ h => absurd h List.not_mem_nil⟩⟩⟩⟩⟩⟩) w hw)
theorem tin_S {c : Cond} : ∀ w ∈ u_ws RS FS 11, w ∈ c :: xtt := fun w hw => tc ((show ∀ w ∈ u_ws RS FS 11, w ∈ xtt from List.forall_mem_cons.mpr ⟨tw_64, List.forall_mem_cons.mpr ⟨tw_66, List.forall_mem_cons.mpr ⟨tw_68, List.forall_mem_cons.mpr ⟨tw_70, List.forall_mem_cons.mpr ⟨tw_72, List.forall_mem_cons.mpr ⟨tw_74, List.forall_mem_cons.mpr ⟨tw_76, List.forall_mem_cons.mpr ⟨tw_78, List.forall_mem_cons.mpr ⟨tw_80, List.forall_mem_cons.mpr ⟨tw_82, List.forall_mem_cons.mpr ⟨tw_84, fun _ h => absurd h List.not_mem_nil⟩⟩⟩⟩⟩⟩⟩⟩⟩⟩⟩) w hw)
theorem tin_B {c : Cond} : ∀ w ∈ u_ws RB FB 2, w ∈ c :: xtt := fun w hw => tc ((show ∀ w ∈ u_ws RB FB 2, w ∈ xtt from List.forall_mem_cons.mpr ⟨tw_98, List.forall_mem_cons.mpr ⟨tw_100, fun _ h => absurd h List.not_mem_nil⟩⟩) w hw)
theorem tin_W {c : Cond} : ∀ w ∈ u_ws RW FW 6, w ∈ c :: xtt := fun w hw => tc ((show ∀ w ∈ u_ws RW FW 6, w ∈ xtt from List.forall_mem_cons.mpr ⟨tw_115, List.forall_mem_cons.mpr ⟨tw_117, List.forall_mem_cons.mpr ⟨tw_119, List.forall_mem_cons.mpr ⟨tw_121, List.forall_mem_cons.mpr ⟨tw_123, List.forall_mem_cons.mpr ⟨tw_125, fun _ h => absurd h List.not_mem_nil⟩⟩⟩⟩⟩⟩) w hw)
theorem tin_R {c : Cond} : ∀ w ∈ u_ws RR FR 5, w ∈ c :: xtt := fun w hw => tc ((show ∀ w ∈ u_ws RR FR 5, w ∈ xtt from List.forall_mem_cons.mpr ⟨tw_139, List.forall_mem_cons.mpr ⟨tw_141, List.forall_mem_cons.mpr ⟨tw_143, List.forall_mem_cons.mpr ⟨tw_145, List.forall_mem_cons.mpr ⟨tw_147, fun _ h => absurd h List.not_mem_nil⟩⟩⟩⟩⟩) w hw)
theorem tin_M {c : Cond} : ∀ w ∈ u_ws RM FM 23, w ∈ c :: xtt := fun w hw => tc ((show ∀ w ∈ u_ws RM FM 23, w ∈ xtt from List.forall_mem_cons.mpr ⟨tw_789, List.forall_mem_cons.mpr ⟨tw_791, List.forall_mem_cons.mpr ⟨tw_793, List.forall_mem_cons.mpr ⟨tw_795, List.forall_mem_cons.mpr ⟨tw_797, List.forall_mem_cons.mpr ⟨tw_799, List.forall_mem_cons.mpr ⟨tw_801, List.forall_mem_cons.mpr ⟨tw_803, List.forall_mem_cons.mpr ⟨tw_805, List.forall_mem_cons.mpr ⟨tw_807, List.forall_mem_cons.mpr ⟨tw_809, List.forall_mem_cons.mpr ⟨tw_811, List.forall_mem_cons.mpr ⟨tw_813, List.forall_mem_cons.mpr ⟨tw_815, List.forall_mem_cons.mpr ⟨tw_817, List.forall_mem_cons.mpr ⟨tw_819, List.forall_mem_cons.mpr ⟨tw_821, List.forall_mem_cons.mpr ⟨tw_823, List.forall_mem_cons.mpr ⟨tw_825, List.forall_mem_cons.mpr ⟨tw_827, List.forall_mem_cons.mpr ⟨tw_829, List.forall_mem_cons.mpr ⟨tw_831, List.forall_mem_cons.mpr ⟨tw_833, fun _ h => absurd h List.not_mem_nil⟩⟩⟩⟩⟩⟩⟩⟩⟩⟩⟩⟩⟩⟩⟩⟩⟩⟩⟩⟩⟩⟩⟩) w hw)
set_option maxRecDepth 100000 in
theorem tow_0 {c : Cond} {own : String} {ic : Nat} (hl : Cond.methodLink own ic (Bundle.initS (xEx 0)) ∈ c :: xtt) : ∀ w ∈ xOwn own ic (xEx 0) 7 prog_13_method_2_code, w ∈ c :: xtt ∨ w ∈ xHw :=
  List.forall_mem_append.mpr ⟨(List.forall_mem_cons.mpr ⟨Or.inl (tc tw_8), (List.forall_mem_cons.mpr ⟨Or.inl (tc tw_301), (List.forall_mem_cons.mpr ⟨Or.inl (tc tw_310), (List.forall_mem_cons.mpr ⟨Or.inl (tc tw_315), (List.forall_mem_cons.mpr ⟨Or.inl (tc tw_318), (List.forall_mem_cons.mpr ⟨Or.inl (tc tw_320), (List.forall_mem_cons.mpr ⟨Or.inl (tc tw_302), (List.forall_mem_cons.mpr ⟨Or.inl (tc tw_303), (List.forall_mem_cons.mpr ⟨Or.inl (tc tw_25), (List.forall_mem_cons.mpr ⟨Or.inl (tc tw_26), (List.forall_mem_cons.mpr ⟨Or.inl (tc tw_304), (List.forall_mem_cons.mpr ⟨Or.inl (tc tw_309), (List.forall_mem_cons.mpr ⟨Or.inl (tc tw_316), (List.forall_mem_cons.mpr ⟨Or.inl (tc tw_336), (List.forall_mem_cons.mpr ⟨Or.inl (tc tw_291), (List.forall_mem_cons.mpr ⟨Or.inl (tc tw_337), (List.forall_mem_cons.mpr ⟨Or.inl (tc tw_293), (List.forall_mem_cons.mpr ⟨Or.inl (tc tw_338), (List.forall_mem_cons.mpr ⟨Or.inl (tc tw_295), (List.forall_mem_cons.mpr ⟨Or.inl (tc tw_305), (List.forall_mem_cons.mpr ⟨Or.inr (List.mem_of_getElem? (i := 0) rfl), (List.forall_mem_cons.mpr ⟨Or.inl (tc tw_307), (List.forall_mem_cons.mpr ⟨Or.inr (List.mem_of_getElem? (i := 2) rfl), (List.forall_mem_cons.mpr ⟨Or.inl (tc tw_297), (fun _ q => absurd q List.not_mem_nil)⟩)⟩)⟩)⟩)⟩)⟩)⟩)⟩)⟩)⟩)⟩)⟩)⟩)⟩)⟩)⟩)⟩)⟩)⟩)⟩)⟩)⟩)⟩)⟩), List.forall_mem_append.mpr ⟨(List.forall_mem_cons.mpr ⟨Or.inl (tc tw_332), (List.forall_mem_cons.mpr ⟨Or.inl (tc tw_333), (List.forall_mem_cons.mpr ⟨Or.inl (tc tw_335), (List.forall_mem_cons.mpr ⟨Or.inl (tc tw_297), (fun _ q => absurd q List.not_mem_nil)⟩)⟩)⟩)⟩), List.forall_mem_append.mpr ⟨(List.forall_mem_cons.mpr ⟨Or.inl (tc tw_323), (List.forall_mem_cons.mpr ⟨Or.inl (tc tw_324), (List.forall_mem_cons.mpr ⟨Or.inl (tc tw_325), (List.forall_mem_cons.mpr ⟨Or.inl (tc tw_326), (List.forall_mem_cons.mpr ⟨Or.inl (tc tw_283), (fun _ q => absurd q List.not_mem_nil)⟩)⟩)⟩)⟩)⟩), List.forall_mem_append.mpr ⟨List.forall_mem_append.mpr ⟨(List.forall_mem_cons.mpr ⟨Or.inl (tc tw_326), (List.forall_mem_cons.mpr ⟨Or.inl (tc tw_327), (List.forall_mem_cons.mpr ⟨Or.inl (tc tw_328), (List.forall_mem_cons.mpr ⟨Or.inl (tc tw_329), (List.forall_mem_cons.mpr ⟨Or.inl (tc tw_285), (fun _ q => absurd q List.not_mem_nil)⟩)⟩)⟩)⟩)⟩), (List.forall_mem_cons.mpr ⟨Or.inl (tc tw_329), (List.forall_mem_cons.mpr ⟨Or.inl (tc tw_330), (List.forall_mem_cons.mpr ⟨Or.inl (tc tw_331), (List.forall_mem_cons.mpr ⟨Or.inl (tc tw_332), (List.forall_mem_cons.mpr ⟨Or.inl (tc tw_287), (fun _ q => absurd q List.not_mem_nil)⟩)⟩)⟩)⟩)⟩)⟩, (List.forall_mem_cons.mpr ⟨Or.inl hl, (List.forall_mem_cons.mpr ⟨Or.inl (tc tw_280), (List.forall_mem_cons.mpr ⟨Or.inl (tc tw_288), (List.forall_mem_cons.mpr ⟨Or.inl (tc tw_289), (List.forall_mem_cons.mpr ⟨Or.inl (tc tw_290), (List.forall_mem_cons.mpr ⟨Or.inl (tc tw_292), (List.forall_mem_cons.mpr ⟨Or.inl (tc tw_294), (List.forall_mem_cons.mpr ⟨Or.inl (tc tw_296), (List.forall_mem_cons.mpr ⟨Or.inr (List.mem_of_getElem? (i := 1) rfl), (List.forall_mem_cons.mpr ⟨Or.inr (List.mem_of_getElem? (i := 3) rfl), (List.forall_mem_cons.mpr ⟨Or.inl (tc tw_300), (List.forall_mem_cons.mpr ⟨Or.inl (tc tw_299), (List.forall_mem_cons.mpr ⟨Or.inl (tc tw_298), (fun _ q => absurd q List.not_mem_nil)⟩)⟩)⟩)⟩)⟩)⟩)⟩)⟩)⟩)⟩)⟩)⟩)⟩)⟩⟩⟩⟩
set_option maxRecDepth 100000 in
theorem tow_1 {c : Cond} {own : String} {ic : Nat} (hl : Cond.methodLink own ic (Bundle.initS (xEx 1)) ∈ c :: xtt) : ∀ w ∈ xOwn own ic (xEx 1) 7 prog_15_method_2_code, w ∈ c :: xtt ∨ w ∈ xHw :=
  List.forall_mem_append.mpr ⟨(List.forall_mem_cons.mpr ⟨Or.inl (tc tw_8), (List.forall_mem_cons.mpr ⟨Or.inl (tc tw_301), (List.forall_mem_cons.mpr ⟨Or.inl (tc tw_310), (List.forall_mem_cons.mpr ⟨Or.inl (tc tw_315), (List.forall_mem_cons.mpr ⟨Or.inl (tc tw_318), (List.forall_mem_cons.mpr ⟨Or.inl (tc tw_320), (List.forall_mem_cons.mpr ⟨Or.inl (tc tw_302), (List.forall_mem_cons.mpr ⟨Or.inl (tc tw_303), (List.forall_mem_cons.mpr ⟨Or.inl (tc tw_25), (List.forall_mem_cons.mpr ⟨Or.inl (tc tw_26), (List.forall_mem_cons.mpr ⟨Or.inl (tc tw_304), (List.forall_mem_cons.mpr ⟨Or.inl (tc tw_309), (List.forall_mem_cons.mpr ⟨Or.inl (tc tw_316), (List.forall_mem_cons.mpr ⟨Or.inl (tc tw_336), (List.forall_mem_cons.mpr ⟨Or.inl (tc tw_291), (List.forall_mem_cons.mpr ⟨Or.inl (tc tw_337), (List.forall_mem_cons.mpr ⟨Or.inl (tc tw_293), (List.forall_mem_cons.mpr ⟨Or.inl (tc tw_338), (List.forall_mem_cons.mpr ⟨Or.inl (tc tw_295), (List.forall_mem_cons.mpr ⟨Or.inl (tc tw_305), (List.forall_mem_cons.mpr ⟨Or.inr (List.mem_of_getElem? (i := 0) rfl), (List.forall_mem_cons.mpr ⟨Or.inl (tc tw_307), (List.forall_mem_cons.mpr ⟨Or.inr (List.mem_of_getElem? (i := 2) rfl), (List.forall_mem_cons.mpr ⟨Or.inl (tc tw_297), (fun _ q => absurd q List.not_mem_nil)⟩)⟩)⟩)⟩)⟩)⟩)⟩)⟩)⟩)⟩)⟩)⟩)⟩)⟩)⟩)⟩)⟩)⟩)⟩)⟩)⟩)⟩)⟩)⟩), List.forall_mem_append.mpr ⟨(List.forall_mem_cons.mpr ⟨Or.inl (tc tw_332), (List.forall_mem_cons.mpr ⟨Or.inl (tc tw_333), (List.forall_mem_cons.mpr ⟨Or.inl (tc tw_335), (List.forall_mem_cons.mpr ⟨Or.inl (tc tw_297), (fun _ q => absurd q List.not_mem_nil)⟩)⟩)⟩)⟩), List.forall_mem_append.mpr ⟨(List.forall_mem_cons.mpr ⟨Or.inl (tc tw_360), (List.forall_mem_cons.mpr ⟨Or.inl (tc tw_361), (List.forall_mem_cons.mpr ⟨Or.inl (tc tw_362), (List.forall_mem_cons.mpr ⟨Or.inl (tc tw_326), (List.forall_mem_cons.mpr ⟨Or.inl (tc tw_283), (fun _ q => absurd q List.not_mem_nil)⟩)⟩)⟩)⟩)⟩), List.forall_mem_append.mpr ⟨List.forall_mem_append.mpr ⟨(List.forall_mem_cons.mpr ⟨Or.inl (tc tw_326), (List.forall_mem_cons.mpr ⟨Or.inl (tc tw_327), (List.forall_mem_cons.mpr ⟨Or.inl (tc tw_328), (List.forall_mem_cons.mpr ⟨Or.inl (tc tw_329), (List.forall_mem_cons.mpr ⟨Or.inl (tc tw_285), (fun _ q => absurd q List.not_mem_nil)⟩)⟩)⟩)⟩)⟩), (List.forall_mem_cons.mpr ⟨Or.inl (tc tw_329), (List.forall_mem_cons.mpr ⟨Or.inl (tc tw_330), (List.forall_mem_cons.mpr ⟨Or.inl (tc tw_331), (List.forall_mem_cons.mpr ⟨Or.inl (tc tw_332), (List.forall_mem_cons.mpr ⟨Or.inl (tc tw_287), (fun _ q => absurd q List.not_mem_nil)⟩)⟩)⟩)⟩)⟩)⟩, (List.forall_mem_cons.mpr ⟨Or.inl hl, (List.forall_mem_cons.mpr ⟨Or.inl (tc tw_350), (List.forall_mem_cons.mpr ⟨Or.inl (tc tw_352), (List.forall_mem_cons.mpr ⟨Or.inl (tc tw_313), (List.forall_mem_cons.mpr ⟨Or.inl (tc tw_353), (List.forall_mem_cons.mpr ⟨Or.inl (tc tw_354), (List.forall_mem_cons.mpr ⟨Or.inl (tc tw_355), (List.forall_mem_cons.mpr ⟨Or.inl (tc tw_356), (List.forall_mem_cons.mpr ⟨Or.inr (List.mem_of_getElem? (i := 1) rfl), (List.forall_mem_cons.mpr ⟨Or.inr (List.mem_of_getElem? (i := 3) rfl), (List.forall_mem_cons.mpr ⟨Or.inl (tc tw_300), (List.forall_mem_cons.mpr ⟨Or.inl (tc tw_299), (List.forall_mem_cons.mpr ⟨Or.inl (tc tw_357), (fun _ q => absurd q List.not_mem_nil)⟩)⟩)⟩)⟩)⟩)⟩)⟩)⟩)⟩)⟩)⟩)⟩)⟩)⟩⟩⟩⟩
set_option maxRecDepth 100000 in
theorem tow_2 {c : Cond} {own : String} {ic : Nat} (hl : Cond.methodLink own ic (Bundle.initS (xEx 2)) ∈ c :: xtt) : ∀ w ∈ xOwn own ic (xEx 2) 7 prog_14_method_2_code, w ∈ c :: xtt ∨ w ∈ xHw :=
  List.forall_mem_append.mpr ⟨(List.forall_mem_cons.mpr ⟨Or.inl (tc tw_8), (List.forall_mem_cons.mpr ⟨Or.inl (tc tw_301), (List.forall_mem_cons.mpr ⟨Or.inl (tc tw_310), (List.forall_mem_cons.mpr ⟨Or.inl (tc tw_315), (List.forall_mem_cons.mpr ⟨Or.inl (tc tw_318), (List.forall_mem_cons.mpr ⟨Or.inl (tc tw_320), (List.forall_mem_cons.mpr ⟨Or.inl (tc tw_302), (List.forall_mem_cons.mpr ⟨Or.inl (tc tw_303), (List.forall_mem_cons.mpr ⟨Or.inl (tc tw_25), (List.forall_mem_cons.mpr ⟨Or.inl (tc tw_26), (List.forall_mem_cons.mpr ⟨Or.inl (tc tw_304), (List.forall_mem_cons.mpr ⟨Or.inl (tc tw_309), (List.forall_mem_cons.mpr ⟨Or.inl (tc tw_316), (List.forall_mem_cons.mpr ⟨Or.inl (tc tw_336), (List.forall_mem_cons.mpr ⟨Or.inl (tc tw_291), (List.forall_mem_cons.mpr ⟨Or.inl (tc tw_337), (List.forall_mem_cons.mpr ⟨Or.inl (tc tw_293), (List.forall_mem_cons.mpr ⟨Or.inl (tc tw_338), (List.forall_mem_cons.mpr ⟨Or.inl (tc tw_295), (List.forall_mem_cons.mpr ⟨Or.inl (tc tw_305), (List.forall_mem_cons.mpr ⟨Or.inr (List.mem_of_getElem? (i := 0) rfl), (List.forall_mem_cons.mpr ⟨Or.inl (tc tw_307), (List.forall_mem_cons.mpr ⟨Or.inr (List.mem_of_getElem? (i := 2) rfl), (List.forall_mem_cons.mpr ⟨Or.inl (tc tw_297), (fun _ q => absurd q List.not_mem_nil)⟩)⟩)⟩)⟩)⟩)⟩)⟩)⟩)⟩)⟩)⟩)⟩)⟩)⟩)⟩)⟩)⟩)⟩)⟩)⟩)⟩)⟩)⟩)⟩), List.forall_mem_append.mpr ⟨(List.forall_mem_cons.mpr ⟨Or.inl (tc tw_332), (List.forall_mem_cons.mpr ⟨Or.inl (tc tw_333), (List.forall_mem_cons.mpr ⟨Or.inl (tc tw_335), (List.forall_mem_cons.mpr ⟨Or.inl (tc tw_297), (fun _ q => absurd q List.not_mem_nil)⟩)⟩)⟩)⟩), List.forall_mem_append.mpr ⟨(List.forall_mem_cons.mpr ⟨Or.inl (tc tw_389), (List.forall_mem_cons.mpr ⟨Or.inl (tc tw_390), (List.forall_mem_cons.mpr ⟨Or.inl (tc tw_391), (List.forall_mem_cons.mpr ⟨Or.inl (tc tw_326), (List.forall_mem_cons.mpr ⟨Or.inl (tc tw_283), (fun _ q => absurd q List.not_mem_nil)⟩)⟩)⟩)⟩)⟩), List.forall_mem_append.mpr ⟨List.forall_mem_append.mpr ⟨(List.forall_mem_cons.mpr ⟨Or.inl (tc tw_326), (List.forall_mem_cons.mpr ⟨Or.inl (tc tw_327), (List.forall_mem_cons.mpr ⟨Or.inl (tc tw_328), (List.forall_mem_cons.mpr ⟨Or.inl (tc tw_329), (List.forall_mem_cons.mpr ⟨Or.inl (tc tw_285), (fun _ q => absurd q List.not_mem_nil)⟩)⟩)⟩)⟩)⟩), (List.forall_mem_cons.mpr ⟨Or.inl (tc tw_329), (List.forall_mem_cons.mpr ⟨Or.inl (tc tw_330), (List.forall_mem_cons.mpr ⟨Or.inl (tc tw_331), (List.forall_mem_cons.mpr ⟨Or.inl (tc tw_332), (List.forall_mem_cons.mpr ⟨Or.inl (tc tw_287), (fun _ q => absurd q List.not_mem_nil)⟩)⟩)⟩)⟩)⟩)⟩, (List.forall_mem_cons.mpr ⟨Or.inl hl, (List.forall_mem_cons.mpr ⟨Or.inl (tc tw_379), (List.forall_mem_cons.mpr ⟨Or.inl (tc tw_381), (List.forall_mem_cons.mpr ⟨Or.inl (tc tw_312), (List.forall_mem_cons.mpr ⟨Or.inl (tc tw_382), (List.forall_mem_cons.mpr ⟨Or.inl (tc tw_383), (List.forall_mem_cons.mpr ⟨Or.inl (tc tw_384), (List.forall_mem_cons.mpr ⟨Or.inl (tc tw_385), (List.forall_mem_cons.mpr ⟨Or.inr (List.mem_of_getElem? (i := 1) rfl), (List.forall_mem_cons.mpr ⟨Or.inr (List.mem_of_getElem? (i := 3) rfl), (List.forall_mem_cons.mpr ⟨Or.inl (tc tw_300), (List.forall_mem_cons.mpr ⟨Or.inl (tc tw_299), (List.forall_mem_cons.mpr ⟨Or.inl (tc tw_386), (fun _ q => absurd q List.not_mem_nil)⟩)⟩)⟩)⟩)⟩)⟩)⟩)⟩)⟩)⟩)⟩)⟩)⟩)⟩⟩⟩⟩
set_option maxRecDepth 100000 in
theorem tow_3 {c : Cond} {own : String} {ic : Nat} (hl : Cond.methodLink own ic (Bundle.initS (xEx 3)) ∈ c :: xtt) : ∀ w ∈ xOwn own ic (xEx 3) 13 prog_21_method_4_code, w ∈ c :: xtt ∨ w ∈ xHw :=
  List.forall_mem_append.mpr ⟨(List.forall_mem_cons.mpr ⟨Or.inl (tc tw_8), (List.forall_mem_cons.mpr ⟨Or.inl (tc tw_301), (List.forall_mem_cons.mpr ⟨Or.inl (tc tw_310), (List.forall_mem_cons.mpr ⟨Or.inl (tc tw_315), (List.forall_mem_cons.mpr ⟨Or.inl (tc tw_318), (List.forall_mem_cons.mpr ⟨Or.inl (tc tw_320), (List.forall_mem_cons.mpr ⟨Or.inl (tc tw_302), (List.forall_mem_cons.mpr ⟨Or.inl (tc tw_303), (List.forall_mem_cons.mpr ⟨Or.inl (tc tw_25), (List.forall_mem_cons.mpr ⟨Or.inl (tc tw_26), (List.forall_mem_cons.mpr ⟨Or.inl (tc tw_304), (List.forall_mem_cons.mpr ⟨Or.inl (tc tw_309), (List.forall_mem_cons.mpr ⟨Or.inl (tc tw_316), (List.forall_mem_cons.mpr ⟨Or.inl (tc tw_336), (List.forall_mem_cons.mpr ⟨Or.inl (tc tw_291), (List.forall_mem_cons.mpr ⟨Or.inl (tc tw_337), (List.forall_mem_cons.mpr ⟨Or.inl (tc tw_293), (List.forall_mem_cons.mpr ⟨Or.inl (tc tw_338), (List.forall_mem_cons.mpr ⟨Or.inl (tc tw_295), (List.forall_mem_cons.mpr ⟨Or.inl (tc tw_305), (List.forall_mem_cons.mpr ⟨Or.inr (List.mem_of_getElem? (i := 0) rfl), (List.forall_mem_cons.mpr ⟨Or.inl (tc tw_307), (List.forall_mem_cons.mpr ⟨Or.inr (List.mem_of_getElem? (i := 2) rfl), (List.forall_mem_cons.mpr ⟨Or.inl (tc tw_297), (fun _ q => absurd q List.not_mem_nil)⟩)⟩)⟩)⟩)⟩)⟩)⟩)⟩)⟩)⟩)⟩)⟩)⟩)⟩)⟩)⟩)⟩)⟩)⟩)⟩)⟩)⟩)⟩)⟩), List.forall_mem_append.mpr ⟨(List.forall_mem_cons.mpr ⟨Or.inl (tc tw_332), (List.forall_mem_cons.mpr ⟨Or.inl (tc tw_333), (List.forall_mem_cons.mpr ⟨Or.inl (tc tw_335), (List.forall_mem_cons.mpr ⟨Or.inl (tc tw_297), (fun _ q => absurd q List.not_mem_nil)⟩)⟩)⟩)⟩), List.forall_mem_append.mpr ⟨(List.forall_mem_cons.mpr ⟨Or.inl (tc tw_573), (List.forall_mem_cons.mpr ⟨Or.inl (tc tw_574), (List.forall_mem_cons.mpr ⟨Or.inl (tc tw_575), (List.forall_mem_cons.mpr ⟨Or.inl (tc tw_326), (List.forall_mem_cons.mpr ⟨Or.inl (tc tw_283), (fun _ q => absurd q List.not_mem_nil)⟩)⟩)⟩)⟩)⟩), List.forall_mem_append.mpr ⟨List.forall_mem_append.mpr ⟨(List.forall_mem_cons.mpr ⟨Or.inl (tc tw_326), (List.forall_mem_cons.mpr ⟨Or.inl (tc tw_327), (List.forall_mem_cons.mpr ⟨Or.inl (tc tw_328), (List.forall_mem_cons.mpr ⟨Or.inl (tc tw_329), (List.forall_mem_cons.mpr ⟨Or.inl (tc tw_285), (fun _ q => absurd q List.not_mem_nil)⟩)⟩)⟩)⟩)⟩), (List.forall_mem_cons.mpr ⟨Or.inl (tc tw_329), (List.forall_mem_cons.mpr ⟨Or.inl (tc tw_330), (List.forall_mem_cons.mpr ⟨Or.inl (tc tw_331), (List.forall_mem_cons.mpr ⟨Or.inl (tc tw_332), (List.forall_mem_cons.mpr ⟨Or.inl (tc tw_287), (fun _ q => absurd q List.not_mem_nil)⟩)⟩)⟩)⟩)⟩)⟩, (List.forall_mem_cons.mpr ⟨Or.inl hl, (List.forall_mem_cons.mpr ⟨Or.inl (tc tw_564), (List.forall_mem_cons.mpr ⟨Or.inl (tc tw_566), (List.forall_mem_cons.mpr ⟨Or.inl (tc tw_314), (List.forall_mem_cons.mpr ⟨Or.inl (tc tw_567), (List.forall_mem_cons.mpr ⟨Or.inl (tc tw_568), (List.forall_mem_cons.mpr ⟨Or.inl (tc tw_569), (List.forall_mem_cons.mpr ⟨Or.inl (tc tw_570), (List.forall_mem_cons.mpr ⟨Or.inr (List.mem_of_getElem? (i := 1) rfl), (List.forall_mem_cons.mpr ⟨Or.inr (List.mem_of_getElem? (i := 3) rfl), (List.forall_mem_cons.mpr ⟨Or.inl (tc tw_300), (List.forall_mem_cons.mpr ⟨Or.inl (tc tw_299), (List.forall_mem_cons.mpr ⟨Or.inl (tc tw_571), (fun _ q => absurd q List.not_mem_nil)⟩)⟩)⟩)⟩)⟩)⟩)⟩)⟩)⟩)⟩)⟩)⟩)⟩)⟩⟩⟩⟩
end
section
def tb_T_charAt : xT := [(0, o_iload 2 1), (1, o_if (fun a => a < 0) 10), (4, o_iload 2 1), (5, o_i 8 2), (7, o_ic (fun a b => a < b) 14), (10, o_i 0 1), (11, o_goto 25), (14, o_lload 0 1), (15, o_i 8 2), (17, o_iload 2 1), (18, o_ii (fun a b => a * b)), (19, o_li xushr), (20, o_l2i), (21, o_i 255 3), (24, o_ii (fun a b => a &&& b)), (25, o_iret)]
abbrev y_T_charAt : MethodName := ⟨"NameMover$Text", "charAt", "(JI)I"⟩
abbrev rm_T_charAt : Room := { frames := 0, cells := 0, slots := 0, locals := 0 }
abbrev ws_T_charAt : List Cond := Cond.code y_T_charAt prog_9_method_2_code 3 (some .int) :: xtt
set_option maxRecDepth 100000 in
theorem v_T_charAt : ∀ q ∈ tb_T_charAt, xSd (0, 0) x0 xCl "NameMover$Text" ws_T_charAt prog_9_method_2_code 3 (some .int) rm_T_charAt q :=
  xval (s_iload_n (f := 2) (by decide +kernel) rfl) (
  xval (s_iflt (z := 9) (by decide +kernel) (by decide)) (
  xval (s_iload_n (f := 2) (by decide +kernel) rfl) (
  xval (s_bipush (z := 8) (by decide +kernel) (by decide)) (
  xval (s_iclt (z := 7) (by decide +kernel) (by decide)) (
  xval (s_iconst (z := 0) (by decide +kernel) (by decide)) (
  xval (s_goto (z := 14) (by decide +kernel) (by decide)) (
  xval (s_lload_n (f := 0) (by decide +kernel) rfl) (
  xval (s_bipush (z := 8) (by decide +kernel) (by decide)) (
  xval (s_iload_n (f := 2) (by decide +kernel) rfl) (
  xval (s_imul (by decide +kernel)) (
  xval (s_lushr (by decide +kernel)) (
  xval (s_l2i (by decide +kernel)) (
  xval (s_sipush (z := 255) (by decide +kernel) (by decide)) (
  xval (s_iand (by decide +kernel)) (
  xval (s_iret (by decide +kernel)) (
  xval_nil))))))))))))))))
theorem c_T_charAt : xMet xCl y_T_charAt ws_T_charAt rm_T_charAt (xRun tb_T_charAt 3) := xMet.of (by decide) rfl v_T_charAt
def tb_T_length : xT := [(0, o_i 8 2), (2, o_istore 2 1), (3, o_iload 2 1), (4, o_if (fun a => a ≤ 0) 23), (7, o_lload 0 1), (8, o_iload 2 1), (9, o_i 1 1), (10, o_ii (fun a b => a - b)), (11, o_call (xRun tb_T_charAt 3) 2 0 0), (14, o_ifn (fun a => a = 0) 23), (17, o_iinc 2 (-1)), (20, o_goto 3), (23, o_iload 2 1), (24, o_iret)]
abbrev y_T_length : MethodName := ⟨"NameMover$Text", "length", "(J)I"⟩
abbrev rm_T_length : Room := { frames := 1, cells := 0, slots := 0, locals := 22 }
abbrev ws_T_length : List Cond := Cond.code y_T_length prog_9_method_4_code 3 (some .int) :: xtt
set_option maxRecDepth 100000 in
theorem v_T_length : ∀ q ∈ tb_T_length, xSd (0, 0) x0 xCl "NameMover$Text" ws_T_length prog_9_method_4_code 3 (some .int) rm_T_length q :=
  xval (s_bipush (z := 8) (by decide +kernel) (by decide)) (
  xval (s_istore_n (f := 2) (by decide +kernel) rfl (by decide)) (
  xval (s_iload_n (f := 2) (by decide +kernel) rfl) (
  xval (s_ifle (z := 19) (by decide +kernel) (by decide)) (
  xval (s_lload_n (f := 0) (by decide +kernel) rfl) (
  xval (s_iload_n (f := 2) (by decide +kernel) rfl) (
  xval (s_iconst (z := 1) (by decide +kernel) (by decide)) (
  xval (s_isub (by decide +kernel)) (
  xval (s_callS (i := 9) c_T_charAt (by decide +kernel) rfl (xtt_good tw_222) (tc tw_220) (tc tw_221) (tc tw_7) ⟨by decide, by decide, by decide +kernel⟩ ⟨by decide, by decide, rfl, rfl, by decide, by decide⟩ x0_e) (
  xval (s_ifne (z := 9) (by decide +kernel) (by decide)) (
  xval (s_iinc (z := (-1)) (by decide +kernel) (by decide) (by decide)) (
  xval (s_goto (z := (-17)) (by decide +kernel) (by decide)) (
  xval (s_iload_n (f := 2) (by decide +kernel) rfl) (
  xval (s_iret (by decide +kernel)) (
  xval_nil))))))))))))))
theorem c_T_length : xMet xCl y_T_length ws_T_length rm_T_length (xRun tb_T_length 3) := xMet.of (by decide) rfl v_T_length
def tb_T_isLetter : xT := [(0, o_iload 0 1), (1, o_i 97 2), (3, o_ic (fun a b => a < b) 12), (6, o_iload 0 1), (7, o_i 122 2), (9, o_ic (fun a b => a ≤ b) 24), (12, o_iload 0 1), (13, o_i 65 2), (15, o_ic (fun a b => a < b) 28), (18, o_iload 0 1), (19, o_i 90 2), (21, o_ic (fun a b => b < a) 28), (24, o_i 1 1), (25, o_goto 29), (28, o_i 0 1), (29, o_zret)]
abbrev y_T_isLetter : MethodName := ⟨"NameMover$Text", "isLetter", "(I)Z"⟩
abbrev rm_T_isLetter : Room := { frames := 0, cells := 0, slots := 0, locals := 0 }
abbrev ws_T_isLetter : List Cond := Cond.code y_T_isLetter prog_9_method_12_code 1 (some .boolean) :: xtt
set_option maxRecDepth 100000 in
theorem v_T_isLetter : ∀ q ∈ tb_T_isLetter, xSd (0, 0) x0 xCl "NameMover$Text" ws_T_isLetter prog_9_method_12_code 1 (some .boolean) rm_T_isLetter q :=
  xval (s_iload_n (f := 0) (by decide +kernel) rfl) (
  xval (s_bipush (z := 97) (by decide +kernel) (by decide)) (
  xval (s_iclt (z := 9) (by decide +kernel) (by decide)) (
  xval (s_iload_n (f := 0) (by decide +kernel) rfl) (
  xval (s_bipush (z := 122) (by decide +kernel) (by decide)) (
  xval (s_icle (z := 15) (by decide +kernel) (by decide)) (
  xval (s_iload_n (f := 0) (by decide +kernel) rfl) (
  xval (s_bipush (z := 65) (by decide +kernel) (by decide)) (
  xval (s_iclt (z := 13) (by decide +kernel) (by decide)) (
  xval (s_iload_n (f := 0) (by decide +kernel) rfl) (
  xval (s_bipush (z := 90) (by decide +kernel) (by decide)) (
  xval (s_icgt (z := 7) (by decide +kernel) (by decide)) (
  xval (s_iconst (z := 1) (by decide +kernel) (by decide)) (
  xval (s_goto (z := 4) (by decide +kernel) (by decide)) (
  xval (s_iconst (z := 0) (by decide +kernel) (by decide)) (
  xval (s_zret (by decide +kernel)) (
  xval_nil))))))))))))))))
theorem c_T_isLetter : xMet xCl y_T_isLetter ws_T_isLetter rm_T_isLetter (xRun tb_T_isLetter 1) := xMet.of (by decide) rfl v_T_isLetter
def tb_T_isDigit : xT := [(0, o_iload 0 1), (1, o_i 48 2), (3, o_ic (fun a b => a < b) 16), (6, o_iload 0 1), (7, o_i 57 2), (9, o_ic (fun a b => b < a) 16), (12, o_i 1 1), (13, o_goto 17), (16, o_i 0 1), (17, o_zret)]
abbrev y_T_isDigit : MethodName := ⟨"NameMover$Text", "isDigit", "(I)Z"⟩
abbrev rm_T_isDigit : Room := { frames := 0, cells := 0, slots := 0, locals := 0 }
abbrev ws_T_isDigit : List Cond := Cond.code y_T_isDigit prog_9_method_13_code 1 (some .boolean) :: xtt
set_option maxRecDepth 100000 in
theorem v_T_isDigit : ∀ q ∈ tb_T_isDigit, xSd (0, 0) x0 xCl "NameMover$Text" ws_T_isDigit prog_9_method_13_code 1 (some .boolean) rm_T_isDigit q :=
  xval (s_iload_n (f := 0) (by decide +kernel) rfl) (
  xval (s_bipush (z := 48) (by decide +kernel) (by decide)) (
  xval (s_iclt (z := 13) (by decide +kernel) (by decide)) (
  xval (s_iload_n (f := 0) (by decide +kernel) rfl) (
  xval (s_bipush (z := 57) (by decide +kernel) (by decide)) (
  xval (s_icgt (z := 7) (by decide +kernel) (by decide)) (
  xval (s_iconst (z := 1) (by decide +kernel) (by decide)) (
  xval (s_goto (z := 4) (by decide +kernel) (by decide)) (
  xval (s_iconst (z := 0) (by decide +kernel) (by decide)) (
  xval (s_zret (by decide +kernel)) (
  xval_nil))))))))))
theorem c_T_isDigit : xMet xCl y_T_isDigit ws_T_isDigit rm_T_isDigit (xRun tb_T_isDigit 1) := xMet.of (by decide) rfl v_T_isDigit
def tb_T_isClassName : xT := [(0, o_lload 0 1), (1, o_call (xRun tb_T_length 3) 1 0 0), (4, o_istore 2 1), (5, o_i 1 1), (6, o_istore 3 1), (7, o_i 0 1), (8, o_istore 4 2), (10, o_iload 4 2), (12, o_iload 2 1), (13, o_ic (fun a b => b ≤ a) 79), (16, o_lload 0 1), (17, o_iload 4 2), (19, o_call (xRun tb_T_charAt 3) 2 0 0), (22, o_istore 5 2), (24, o_iload 3 1), (25, o_if (fun a => a = 0) 43), (28, o_iload 5 2), (30, o_call (xRun tb_T_isLetter 1) 1 0 0), (33, o_ifn (fun a => a = 0) 38), (36, o_i 0 1), (37, o_zret), (38, o_i 0 1), (39, o_istore 3 1), (40, o_goto 73), (43, o_iload 5 2), (45, o_i 47 2), (47, o_icn (fun a b => a = b) 55), (50, o_i 1 1), (51, o_istore 3 1), (52, o_goto 73), (55, o_iload 5 2), (57, o_call (xRun tb_T_isLetter 1) 1 0 0), (60, o_ifn (fun a => a = 0) 73), (63, o_iload 5 2), (65, o_call (xRun tb_T_isDigit 1) 1 0 0), (68, o_ifn (fun a => a = 0) 73), (71, o_i 0 1), (72, o_zret), (73, o_iinc 4 1), (76, o_goto 10), (79, o_iload 3 1), (80, o_ifn (fun a => a = 0) 87), (83, o_i 1 1), (84, o_goto 88), (87, o_i 0 1), (88, o_zret)]
abbrev y_T_isClassName : MethodName := ⟨"NameMover$Text", "isClassName", "(J)Z"⟩
abbrev rm_T_isClassName : Room := { frames := 2, cells := 0, slots := 0, locals := 44 }
abbrev ws_T_isClassName : List Cond := Cond.code y_T_isClassName prog_9_method_5_code 6 (some .boolean) :: xtt
set_option maxRecDepth 100000 in
theorem v_T_isClassName : ∀ q ∈ tb_T_isClassName, xSd (0, 0) x0 xCl "NameMover$Text" ws_T_isClassName prog_9_method_5_code 6 (some .boolean) rm_T_isClassName q :=
  xval (s_lload_n (f := 0) (by decide +kernel) rfl) (
  xval (s_callS (i := 13) c_T_length (by decide +kernel) rfl (xtt_good tw_272) (tc tw_270) (tc tw_271) (tc tw_7) ⟨by decide, by decide, by decide +kernel⟩ ⟨by decide, by decide, rfl, rfl, by decide, by decide⟩ x0_e) (
  xval (s_istore_n (f := 2) (by decide +kernel) rfl (by decide)) (
  xval (s_iconst (z := 1) (by decide +kernel) (by decide)) (
  xval (s_istore_n (f := 3) (by decide +kernel) rfl (by decide)) (
  xval (s_iconst (z := 0) (by decide +kernel) (by decide)) (
  xval (s_istore (by decide +kernel) (by decide)) (
  xval (s_iload (by decide +kernel)) (
  xval (s_iload_n (f := 2) (by decide +kernel) rfl) (
  xval (s_icge (z := 66) (by decide +kernel) (by decide)) (
  xval (s_lload_n (f := 0) (by decide +kernel) rfl) (
  xval (s_iload (by decide +kernel)) (
  xval (s_callS (i := 9) c_T_charAt (by decide +kernel) rfl (xtt_good tw_222) (tc tw_220) (tc tw_221) (tc tw_7) ⟨by decide, by decide, by decide +kernel⟩ ⟨by decide, by decide, rfl, rfl, by decide, by decide⟩ x0_e) (
  xval (s_istore (by decide +kernel) (by decide)) (
  xval (s_iload_n (f := 3) (by decide +kernel) rfl) (
  xval (s_ifeq (z := 18) (by decide +kernel) (by decide)) (
  xval (s_iload (by decide +kernel)) (
  xval (s_callS (i := 17) c_T_isLetter (by decide +kernel) rfl (xtt_good tw_275) (tc tw_273) (tc tw_274) (tc tw_7) ⟨by decide, by decide, by decide +kernel⟩ ⟨by decide, by decide, rfl, rfl, by decide, by decide⟩ x0_e) (
  xval (s_ifne (z := 5) (by decide +kernel) (by decide)) (
  xval (s_iconst (z := 0) (by decide +kernel) (by decide)) (
  xval (s_zret (by decide +kernel)) (
  xval (s_iconst (z := 0) (by decide +kernel) (by decide)) (
  xval (s_istore_n (f := 3) (by decide +kernel) rfl (by decide)) (
  xval (s_goto (z := 33) (by decide +kernel) (by decide)) (
  xval (s_iload (by decide +kernel)) (
  xval (s_bipush (z := 47) (by decide +kernel) (by decide)) (
  xval (s_icne (z := 8) (by decide +kernel) (by decide)) (
  xval (s_iconst (z := 1) (by decide +kernel) (by decide)) (
  xval (s_istore_n (f := 3) (by decide +kernel) rfl (by decide)) (
  xval (s_goto (z := 21) (by decide +kernel) (by decide)) (
  xval (s_iload (by decide +kernel)) (
  xval (s_callS (i := 17) c_T_isLetter (by decide +kernel) rfl (xtt_good tw_275) (tc tw_273) (tc tw_274) (tc tw_7) ⟨by decide, by decide, by decide +kernel⟩ ⟨by decide, by decide, rfl, rfl, by decide, by decide⟩ x0_e) (
  xval (s_ifne (z := 13) (by decide +kernel) (by decide)) (
  xval (s_iload (by decide +kernel)) (
  xval (s_callS (i := 21) c_T_isDigit (by decide +kernel) rfl (xtt_good tw_278) (tc tw_276) (tc tw_277) (tc tw_7) ⟨by decide, by decide, by decide +kernel⟩ ⟨by decide, by decide, rfl, rfl, by decide, by decide⟩ x0_e) (
  xval (s_ifne (z := 5) (by decide +kernel) (by decide)) (
  xval (s_iconst (z := 0) (by decide +kernel) (by decide)) (
  xval (s_zret (by decide +kernel)) (
  xval (s_iinc (z := 1) (by decide +kernel) (by decide) (by decide)) (
  xval (s_goto (z := (-66)) (by decide +kernel) (by decide)) (
  xval (s_iload_n (f := 3) (by decide +kernel) rfl) (
  xval (s_ifne (z := 7) (by decide +kernel) (by decide)) (
  xval (s_iconst (z := 1) (by decide +kernel) (by decide)) (
  xval (s_goto (z := 4) (by decide +kernel) (by decide)) (
  xval (s_iconst (z := 0) (by decide +kernel) (by decide)) (
  xval (s_zret (by decide +kernel)) (
  xval_nil))))))))))))))))))))))))))))))))))))))))))))))
theorem c_T_isClassName : xMet xCl y_T_isClassName ws_T_isClassName rm_T_isClassName (xRun tb_T_isClassName 6) := xMet.of (by decide) rfl v_T_isClassName
def tb_S_isClass : xT := [(0, o_iload 1 1), (1, o_if (fun a => a < 0) 16), (4, o_iload 1 1), (5, o_aload 0 1), (6, o_getf 1 10), (9, o_ic (fun a b => b ≤ a) 16), (12, o_i 1 1), (13, o_goto 17), (16, o_i 0 1), (17, o_zret)]
abbrev y_S_isClass : MethodName := ⟨"NameMover$Store", "isClass", "(I)Z"⟩
abbrev rm_S_isClass : Room := { frames := 0, cells := 0, slots := 0, locals := 0 }
abbrev ws_S_isClass : List Cond := Cond.code y_S_isClass prog_8_method_5_code 2 (some .boolean) :: xtt
set_option maxRecDepth 100000 in
theorem v_S_isClass : ∀ q ∈ tb_S_isClass, xSd (0, 0) x0 xCl "NameMover$Store" ws_S_isClass prog_8_method_5_code 2 (some .boolean) rm_S_isClass q :=
  xval (s_iload_n (f := 1) (by decide +kernel) rfl) (
  xval (s_iflt (z := 15) (by decide +kernel) (by decide)) (
  xval (s_iload_n (f := 1) (by decide +kernel) rfl) (
  xval (s_aload_n (f := 0) (by decide +kernel) rfl) (
  xval (s_getf (i := 42) (by decide +kernel) rfl tin_S (by decide) (tc tw_60)) (
  xval (s_icge (z := 7) (by decide +kernel) (by decide)) (
  xval (s_iconst (z := 1) (by decide +kernel) (by decide)) (
  xval (s_goto (z := 4) (by decide +kernel) (by decide)) (
  xval (s_iconst (z := 0) (by decide +kernel) (by decide)) (
  xval (s_zret (by decide +kernel)) (
  xval_nil))))))))))
theorem c_S_isClass : xMet xCl y_S_isClass ws_S_isClass rm_S_isClass (xRun tb_S_isClass 2) := xMet.of (by decide) rfl v_S_isClass
def tb_S_numbersEnd : xT := [(0, o_i 8 2), (2, o_aload 0 1), (3, o_getf 1 10), (6, o_ii (fun a b => a * b)), (7, o_iret)]
abbrev y_S_numbersEnd : MethodName := ⟨"NameMover$Store", "numbersEnd", "()I"⟩
abbrev rm_S_numbersEnd : Room := { frames := 0, cells := 0, slots := 0, locals := 0 }
abbrev ws_S_numbersEnd : List Cond := Cond.code y_S_numbersEnd prog_8_method_4_code 1 (some .int) :: xtt
set_option maxRecDepth 100000 in
theorem v_S_numbersEnd : ∀ q ∈ tb_S_numbersEnd, xSd (0, 0) x0 xCl "NameMover$Store" ws_S_numbersEnd prog_8_method_4_code 1 (some .int) rm_S_numbersEnd q :=
  xval (s_bipush (z := 8) (by decide +kernel) (by decide)) (
  xval (s_aload_n (f := 0) (by decide +kernel) rfl) (
  xval (s_getf (i := 42) (by decide +kernel) rfl tin_S (by decide) (tc tw_60)) (
  xval (s_imul (by decide +kernel)) (
  xval (s_iret (by decide +kernel)) (
  xval_nil)))))
theorem c_S_numbersEnd : xMet xCl y_S_numbersEnd ws_S_numbersEnd rm_S_numbersEnd (xRun tb_S_numbersEnd 1) := xMet.of (by decide) rfl v_S_numbersEnd
def tb_S_classOf : xT := [(0, o_iload 0 1), (1, o_i 8 2), (3, o_dr (fun a b => a / b)), (4, o_iret)]
abbrev y_S_classOf : MethodName := ⟨"NameMover$Store", "classOf", "(I)I"⟩
abbrev rm_S_classOf : Room := { frames := 0, cells := 0, slots := 0, locals := 0 }
abbrev ws_S_classOf : List Cond := Cond.code y_S_classOf prog_8_method_3_code 1 (some .int) :: xtt
set_option maxRecDepth 100000 in
theorem v_S_classOf : ∀ q ∈ tb_S_classOf, xSd (0, 0) x0 xCl "NameMover$Store" ws_S_classOf prog_8_method_3_code 1 (some .int) rm_S_classOf q :=
  xval (s_iload_n (f := 0) (by decide +kernel) rfl) (
  xval (s_bipush (z := 8) (by decide +kernel) (by decide)) (
  xval (s_idiv (by decide +kernel)) (
  xval (s_iret (by decide +kernel)) (
  xval_nil))))
theorem c_S_classOf : xMet xCl y_S_classOf ws_S_classOf rm_S_classOf (xRun tb_S_classOf 1) := xMet.of (by decide) rfl v_S_classOf
def tb_S_isMember : xT := [(0, o_aload 0 1), (1, o_iload 1 1), (2, o_callV (xRun tb_S_isClass 2) 1 1 0 0), (5, o_if (fun a => a = 0) 26), (8, o_iload 2 1), (9, o_if (fun a => a < 0) 26), (12, o_iload 2 1), (13, o_aload 0 1), (14, o_getf 1 4), (17, o_iload 1 1), (18, o_iaload), (19, o_ic (fun a b => b ≤ a) 26), (22, o_i 1 1), (23, o_goto 27), (26, o_i 0 1), (27, o_zret)]
abbrev y_S_isMember : MethodName := ⟨"NameMover$Store", "isMember", "(II)Z"⟩
abbrev rm_S_isMember : Room := { frames := 1, cells := 0, slots := 0, locals := 21 }
abbrev ws_S_isMember : List Cond := Cond.code y_S_isMember prog_8_method_6_code 3 (some .boolean) :: xtt
set_option maxRecDepth 100000 in
theorem v_S_isMember : ∀ q ∈ tb_S_isMember, xSd (0, 0) x0 xCl "NameMover$Store" ws_S_isMember prog_8_method_6_code 3 (some .boolean) rm_S_isMember q :=
  xval (s_aload_n (f := 0) (by decide +kernel) rfl) (
  xval (s_iload_n (f := 1) (by decide +kernel) rfl) (
  xval (s_callV (i := 46) c_S_isClass (by decide +kernel) rfl (xtt_good tw_203) rfl (tc tw_200) (tc tw_201) (tc tw_202) (tc tw_2) ⟨by decide, by decide, by decide +kernel⟩ ⟨by decide, by decide, rfl, rfl, by decide, by decide⟩ x0_e) (
  xval (s_ifeq (z := 21) (by decide +kernel) (by decide)) (
  xval (s_iload_n (f := 2) (by decide +kernel) rfl) (
  xval (s_iflt (z := 17) (by decide +kernel) (by decide)) (
  xval (s_iload_n (f := 2) (by decide +kernel) rfl) (
  xval (s_aload_n (f := 0) (by decide +kernel) rfl) (
  xval (s_getf (i := 24) (by decide +kernel) rfl tin_S (by decide) (tc tw_45)) (
  xval (s_iload_n (f := 1) (by decide +kernel) rfl) (
  xval (s_iaload (by decide +kernel)) (
  xval (s_icge (z := 7) (by decide +kernel) (by decide)) (
  xval (s_iconst (z := 1) (by decide +kernel) (by decide)) (
  xval (s_goto (z := 4) (by decide +kernel) (by decide)) (
  xval (s_iconst (z := 0) (by decide +kernel) (by decide)) (
  xval (s_zret (by decide +kernel)) (
  xval_nil))))))))))))))))
theorem c_S_isMember : xMet xCl y_S_isMember ws_S_isMember rm_S_isMember (xRun tb_S_isMember 3) := xMet.of (by decide) rfl v_S_isMember
def tb_S_isMemberNumber : xT := [(0, o_iload 1 1), (1, o_if (fun a => a < 0) 23), (4, o_aload 0 1), (5, o_iload 1 1), (6, o_call (xRun tb_S_classOf 1) 1 0 0), (9, o_iload 1 1), (10, o_i 8 2), (12, o_dr (fun a b => a - a / b * b)), (13, o_callV (xRun tb_S_isMember 3) 1 2 0 0), (16, o_if (fun a => a = 0) 23), (19, o_i 1 1), (20, o_goto 24), (23, o_i 0 1), (24, o_zret)]
abbrev y_S_isMemberNumber : MethodName := ⟨"NameMover$Store", "isMemberNumber", "(I)Z"⟩
abbrev rm_S_isMemberNumber : Room := { frames := 2, cells := 0, slots := 0, locals := 43 }
abbrev ws_S_isMemberNumber : List Cond := Cond.code y_S_isMemberNumber prog_8_method_7_code 2 (some .boolean) :: xtt
set_option maxRecDepth 100000 in
theorem v_S_isMemberNumber : ∀ q ∈ tb_S_isMemberNumber, xSd (0, 0) x0 xCl "NameMover$Store" ws_S_isMemberNumber prog_8_method_7_code 2 (some .boolean) rm_S_isMemberNumber q :=
  xval (s_iload_n (f := 1) (by decide +kernel) rfl) (
  xval (s_iflt (z := 22) (by decide +kernel) (by decide)) (
  xval (s_aload_n (f := 0) (by decide +kernel) rfl) (
  xval (s_iload_n (f := 1) (by decide +kernel) rfl) (
  xval (s_callS (i := 50) c_S_classOf (by decide +kernel) rfl (xtt_good tw_195) (tc tw_193) (tc tw_194) (tc tw_2) ⟨by decide, by decide, by decide +kernel⟩ ⟨by decide, by decide, rfl, rfl, by decide, by decide⟩ x0_e) (
  xval (s_iload_n (f := 1) (by decide +kernel) rfl) (
  xval (s_bipush (z := 8) (by decide +kernel) (by decide)) (
  xval (s_irem (by decide +kernel)) (
  xval (s_callV (i := 54) c_S_isMember (by decide +kernel) rfl (xtt_good tw_199) rfl (tc tw_196) (tc tw_197) (tc tw_198) (tc tw_2) ⟨by decide, by decide, by decide +kernel⟩ ⟨by decide, by decide, rfl, rfl, by decide, by decide⟩ x0_e) (
  xval (s_ifeq (z := 7) (by decide +kernel) (by decide)) (
  xval (s_iconst (z := 1) (by decide +kernel) (by decide)) (
  xval (s_goto (z := 4) (by decide +kernel) (by decide)) (
  xval (s_iconst (z := 0) (by decide +kernel) (by decide)) (
  xval (s_zret (by decide +kernel)) (
  xval_nil))))))))))))))
theorem c_S_isMemberNumber : xMet xCl y_S_isMemberNumber ws_S_isMemberNumber rm_S_isMemberNumber (xRun tb_S_isMemberNumber 2) := xMet.of (by decide) rfl v_S_isMemberNumber
def tb_S_changedNames : xT := [(0, o_i 0 1), (1, o_istore 1 1), (2, o_i 0 1), (3, o_istore 2 1), (4, o_iload 2 1), (5, o_aload 0 1), (6, o_getf 1 10), (9, o_ic (fun a b => b ≤ a) 37), (12, o_aload 0 1), (13, o_getf 1 1), (16, o_iload 2 1), (17, o_laload), (18, o_aload 0 1), (19, o_getf 1 0), (22, o_iload 2 1), (23, o_laload), (24, o_lcmp), (25, o_if (fun a => a = 0) 31), (28, o_iinc 1 1), (31, o_iinc 2 1), (34, o_goto 4), (37, o_i 0 1), (38, o_istore 2 1), (39, o_iload 2 1), (40, o_aload 0 1), (41, o_callV (xRun tb_S_numbersEnd 1) 1 0 0 0), (44, o_ic (fun a b => b ≤ a) 80), (47, o_aload 0 1), (48, o_iload 2 1), (49, o_callV (xRun tb_S_isMemberNumber 2) 1 1 0 0), (52, o_if (fun a => a = 0) 74), (55, o_aload 0 1), (56, o_getf 1 7), (59, o_iload 2 1), (60, o_laload), (61, o_aload 0 1), (62, o_getf 1 6), (65, o_iload 2 1), (66, o_laload), (67, o_lcmp), (68, o_if (fun a => a = 0) 74), (71, o_iinc 1 1), (74, o_iinc 2 1), (77, o_goto 39), (80, o_iload 1 1), (81, o_iret)]
abbrev y_S_changedNames : MethodName := ⟨"NameMover$Store", "changedNames", "()I"⟩
abbrev rm_S_changedNames : Room := { frames := 3, cells := 0, slots := 0, locals := 64 }
abbrev ws_S_changedNames : List Cond := Cond.code y_S_changedNames prog_8_method_18_code 3 (some .int) :: xtt
set_option maxRecDepth 100000 in
theorem v_S_changedNames : ∀ q ∈ tb_S_changedNames, xSd (0, 0) x0 xCl "NameMover$Store" ws_S_changedNames prog_8_method_18_code 3 (some .int) rm_S_changedNames q :=
  xval (s_iconst (z := 0) (by decide +kernel) (by decide)) (
  xval (s_istore_n (f := 1) (by decide +kernel) rfl (by decide)) (
  xval (s_iconst (z := 0) (by decide +kernel) (by decide)) (
  xval (s_istore_n (f := 2) (by decide +kernel) rfl (by decide)) (
  xval (s_iload_n (f := 2) (by decide +kernel) rfl) (
  xval (s_aload_n (f := 0) (by decide +kernel) rfl) (
  xval (s_getf (i := 42) (by decide +kernel) rfl tin_S (by decide) (tc tw_60)) (
  xval (s_icge (z := 28) (by decide +kernel) (by decide)) (
  xval (s_aload_n (f := 0) (by decide +kernel) rfl) (
  xval (s_getf (i := 13) (by decide +kernel) rfl tin_S (by decide) (tc tw_37)) (
  xval (s_iload_n (f := 2) (by decide +kernel) rfl) (
  xval (s_laload (by decide +kernel)) (
  xval (s_aload_n (f := 0) (by decide +kernel) rfl) (
  xval (s_getf (i := 9) (by decide +kernel) rfl tin_S (by decide) (tc tw_33)) (
  xval (s_iload_n (f := 2) (by decide +kernel) rfl) (
  xval (s_laload (by decide +kernel)) (
  xval (s_lcmp (by decide +kernel)) (
  xval (s_ifeq (z := 6) (by decide +kernel) (by decide)) (
  xval (s_iinc (z := 1) (by decide +kernel) (by decide) (by decide)) (
  xval (s_iinc (z := 1) (by decide +kernel) (by decide) (by decide)) (
  xval (s_goto (z := (-30)) (by decide +kernel) (by decide)) (
  xval (s_iconst (z := 0) (by decide +kernel) (by decide)) (
  xval (s_istore_n (f := 2) (by decide +kernel) rfl (by decide)) (
  xval (s_iload_n (f := 2) (by decide +kernel) rfl) (
  xval (s_aload_n (f := 0) (by decide +kernel) rfl) (
  xval (s_callV (i := 73) c_S_numbersEnd (by decide +kernel) rfl (xtt_good tw_188) rfl (tc tw_244) (tc tw_186) (tc tw_187) (tc tw_2) ⟨by decide, by decide, by decide +kernel⟩ ⟨by decide, by decide, rfl, rfl, by decide, by decide⟩ x0_e) (
  xval (s_icge (z := 36) (by decide +kernel) (by decide)) (
  xval (s_aload_n (f := 0) (by decide +kernel) rfl) (
  xval (s_iload_n (f := 2) (by decide +kernel) rfl) (
  xval (s_callV (i := 76) c_S_isMemberNumber (by decide +kernel) rfl (xtt_good tw_192) rfl (tc tw_245) (tc tw_190) (tc tw_191) (tc tw_2) ⟨by decide, by decide, by decide +kernel⟩ ⟨by decide, by decide, rfl, rfl, by decide, by decide⟩ x0_e) (
  xval (s_ifeq (z := 22) (by decide +kernel) (by decide)) (
  xval (s_aload_n (f := 0) (by decide +kernel) rfl) (
  xval (s_getf (i := 33) (by decide +kernel) rfl tin_S (by decide) (tc tw_52)) (
  xval (s_iload_n (f := 2) (by decide +kernel) rfl) (
  xval (s_laload (by decide +kernel)) (
  xval (s_aload_n (f := 0) (by decide +kernel) rfl) (
  xval (s_getf (i := 30) (by decide +kernel) rfl tin_S (by decide) (tc tw_48)) (
  xval (s_iload_n (f := 2) (by decide +kernel) rfl) (
  xval (s_laload (by decide +kernel)) (
  xval (s_lcmp (by decide +kernel)) (
  xval (s_ifeq (z := 6) (by decide +kernel) (by decide)) (
  xval (s_iinc (z := 1) (by decide +kernel) (by decide) (by decide)) (
  xval (s_iinc (z := 1) (by decide +kernel) (by decide) (by decide)) (
  xval (s_goto (z := (-38)) (by decide +kernel) (by decide)) (
  xval (s_iload_n (f := 1) (by decide +kernel) rfl) (
  xval (s_iret (by decide +kernel)) (
  xval_nil))))))))))))))))))))))))))))))))))))))))))))))
theorem c_S_changedNames : xMet xCl y_S_changedNames ws_S_changedNames rm_S_changedNames (xRun tb_S_changedNames 3) := xMet.of (by decide) rfl v_S_changedNames
def tb_S_isMoving : xT := [(0, o_aload 0 1), (1, o_callV (xRun tb_S_changedNames 3) 1 0 0 0), (4, o_if (fun a => a ≤ 0) 11), (7, o_i 1 1), (8, o_goto 12), (11, o_i 0 1), (12, o_zret)]
abbrev y_S_isMoving : MethodName := ⟨"NameMover$Store", "isMoving", "()Z"⟩
abbrev rm_S_isMoving : Room := { frames := 4, cells := 0, slots := 0, locals := 86 }
abbrev ws_S_isMoving : List Cond := Cond.code y_S_isMoving prog_8_method_17_code 1 (some .boolean) :: xtt
set_option maxRecDepth 100000 in
theorem v_S_isMoving : ∀ q ∈ tb_S_isMoving, xSd (0, 0) x0 xCl "NameMover$Store" ws_S_isMoving prog_8_method_17_code 1 (some .boolean) rm_S_isMoving q :=
  xval (s_aload_n (f := 0) (by decide +kernel) rfl) (
  xval (s_callV (i := 69) c_S_changedNames (by decide +kernel) rfl (xtt_good tw_243) rfl (tc tw_369) (tc tw_241) (tc tw_242) (tc tw_2) ⟨by decide, by decide, by decide +kernel⟩ ⟨by decide, by decide, rfl, rfl, by decide, by decide⟩ x0_e) (
  xval (s_ifle (z := 7) (by decide +kernel) (by decide)) (
  xval (s_iconst (z := 1) (by decide +kernel) (by decide)) (
  xval (s_goto (z := 4) (by decide +kernel) (by decide)) (
  xval (s_iconst (z := 0) (by decide +kernel) (by decide)) (
  xval (s_zret (by decide +kernel)) (
  xval_nil)))))))
theorem c_S_isMoving : xMet xCl y_S_isMoving ws_S_isMoving rm_S_isMoving (xRun tb_S_isMoving 1) := xMet.of (by decide) rfl v_S_isMoving
def tb_S_isFull : xT := [(0, o_aload 0 1), (1, o_getf 1 10), (4, o_i 8 2), (6, o_ic (fun a b => a < b) 13), (9, o_i 1 1), (10, o_goto 14), (13, o_i 0 1), (14, o_zret)]
abbrev y_S_isFull : MethodName := ⟨"NameMover$Store", "isFull", "()Z"⟩
abbrev rm_S_isFull : Room := { frames := 0, cells := 0, slots := 0, locals := 0 }
abbrev ws_S_isFull : List Cond := Cond.code y_S_isFull prog_8_method_8_code 1 (some .boolean) :: xtt
set_option maxRecDepth 100000 in
theorem v_S_isFull : ∀ q ∈ tb_S_isFull, xSd (0, 0) x0 xCl "NameMover$Store" ws_S_isFull prog_8_method_8_code 1 (some .boolean) rm_S_isFull q :=
  xval (s_aload_n (f := 0) (by decide +kernel) rfl) (
  xval (s_getf (i := 42) (by decide +kernel) rfl tin_S (by decide) (tc tw_60)) (
  xval (s_bipush (z := 8) (by decide +kernel) (by decide)) (
  xval (s_iclt (z := 7) (by decide +kernel) (by decide)) (
  xval (s_iconst (z := 1) (by decide +kernel) (by decide)) (
  xval (s_goto (z := 4) (by decide +kernel) (by decide)) (
  xval (s_iconst (z := 0) (by decide +kernel) (by decide)) (
  xval (s_zret (by decide +kernel)) (
  xval_nil))))))))
theorem c_S_isFull : xMet xCl y_S_isFull ws_S_isFull rm_S_isFull (xRun tb_S_isFull 1) := xMet.of (by decide) rfl v_S_isFull
def tb_S_classNamed : xT := [(0, o_i 0 1), (1, o_istore 4 2), (3, o_iload 4 2), (5, o_iload 3 1), (6, o_ic (fun a b => b ≤ a) 37), (9, o_iload 4 2), (11, o_i 8 2), (13, o_ic (fun a b => b ≤ a) 37), (16, o_aload 0 1), (17, o_getf 1 0), (20, o_iload 4 2), (22, o_laload), (23, o_lload 1 1), (24, o_lcmp), (25, o_ifn (fun a => a = 0) 31), (28, o_iload 4 2), (30, o_iret), (31, o_iinc 4 1), (34, o_goto 3), (37, o_i (-1) 1), (38, o_iret)]
abbrev y_S_classNamed : MethodName := ⟨"NameMover$Store", "classNamed", "(JI)I"⟩
abbrev rm_S_classNamed : Room := { frames := 0, cells := 0, slots := 0, locals := 0 }
abbrev ws_S_classNamed : List Cond := Cond.code y_S_classNamed prog_8_method_9_code 5 (some .int) :: xtt
set_option maxRecDepth 100000 in
theorem v_S_classNamed : ∀ q ∈ tb_S_classNamed, xSd (0, 0) x0 xCl "NameMover$Store" ws_S_classNamed prog_8_method_9_code 5 (some .int) rm_S_classNamed q :=
  xval (s_iconst (z := 0) (by decide +kernel) (by decide)) (
  xval (s_istore (by decide +kernel) (by decide)) (
  xval (s_iload (by decide +kernel)) (
  xval (s_iload_n (f := 3) (by decide +kernel) rfl) (
  xval (s_icge (z := 31) (by decide +kernel) (by decide)) (
  xval (s_iload (by decide +kernel)) (
  xval (s_bipush (z := 8) (by decide +kernel) (by decide)) (
  xval (s_icge (z := 24) (by decide +kernel) (by decide)) (
  xval (s_aload_n (f := 0) (by decide +kernel) rfl) (
  xval (s_getf (i := 9) (by decide +kernel) rfl tin_S (by decide) (tc tw_33)) (
  xval (s_iload (by decide +kernel)) (
  xval (s_laload (by decide +kernel)) (
  xval (s_lload_n (f := 1) (by decide +kernel) rfl) (
  xval (s_lcmp (by decide +kernel)) (
  xval (s_ifne (z := 6) (by decide +kernel) (by decide)) (
  xval (s_iload (by decide +kernel)) (
  xval (s_iret (by decide +kernel)) (
  xval (s_iinc (z := 1) (by decide +kernel) (by decide) (by decide)) (
  xval (s_goto (z := (-31)) (by decide +kernel) (by decide)) (
  xval (s_iconst (z := (-1)) (by decide +kernel) (by decide)) (
  xval (s_iret (by decide +kernel)) (
  xval_nil)))))))))))))))))))))
theorem c_S_classNamed : xMet xCl y_S_classNamed ws_S_classNamed rm_S_classNamed (xRun tb_S_classNamed 5) := xMet.of (by decide) rfl v_S_classNamed
def tb_S_placeClass : xT := [(0, o_aload 0 1), (1, o_getf 1 0), (4, o_aload 0 1), (5, o_getf 1 10), (8, o_lload 1 1), (9, o_lastore), (10, o_aload 0 1), (11, o_getf 1 1), (14, o_aload 0 1), (15, o_getf 1 10), (18, o_lload 1 1), (19, o_lastore), (20, o_aload 0 1), (21, o_getf 1 2), (24, o_aload 0 1), (25, o_getf 1 10), (28, o_iload 3 1), (29, o_iastore), (30, o_aload 0 1), (31, o_getf 1 3), (34, o_aload 0 1), (35, o_getf 1 10), (38, o_iload 4 2), (40, o_bastore), (41, o_aload 0 1), (42, o_getf 1 4), (45, o_aload 0 1), (46, o_getf 1 10), (49, o_i 0 1), (50, o_iastore), (51, o_aload 0 1), (52, o_getf 1 5), (55, o_aload 0 1), (56, o_getf 1 10), (59, o_iload 3 1), (60, o_i (-1) 1), (61, o_icn (fun a b => a = b) 68), (64, o_i 0 1), (65, o_goto 78), (68, o_aload 0 1), (69, o_getf 1 5), (72, o_iload 3 1), (73, o_iaload), (74, o_i 1 1), (75, o_iload 3 1), (76, o_ii (fun a b => a <<< (b &&& 31))), (77, o_ii (fun a b => a ||| b)), (78, o_iastore), (79, o_vret)]
abbrev y_S_placeClass : MethodName := ⟨"NameMover$Store", "placeClass", "(JIZ)V"⟩
abbrev rm_S_placeClass : Room := { frames := 0, cells := 0, slots := 0, locals := 0 }
abbrev ws_S_placeClass : List Cond := Cond.code y_S_placeClass prog_8_method_14_code 5 (none) :: xtt
set_option maxRecDepth 100000 in
theorem v_S_placeClass : ∀ q ∈ tb_S_placeClass, xSd (0, 0) x0 xCl "NameMover$Store" ws_S_placeClass prog_8_method_14_code 5 (none) rm_S_placeClass q :=
  xval (s_aload_n (f := 0) (by decide +kernel) rfl) (
  xval (s_getf (i := 9) (by decide +kernel) rfl tin_S (by decide) (tc tw_33)) (
  xval (s_aload_n (f := 0) (by decide +kernel) rfl) (
  xval (s_getf (i := 42) (by decide +kernel) rfl tin_S (by decide) (tc tw_60)) (
  xval (s_lload_n (f := 1) (by decide +kernel) rfl) (
  xval (s_lastore (by decide +kernel)) (
  xval (s_aload_n (f := 0) (by decide +kernel) rfl) (
  xval (s_getf (i := 13) (by decide +kernel) rfl tin_S (by decide) (tc tw_37)) (
  xval (s_aload_n (f := 0) (by decide +kernel) rfl) (
  xval (s_getf (i := 42) (by decide +kernel) rfl tin_S (by decide) (tc tw_60)) (
  xval (s_lload_n (f := 1) (by decide +kernel) rfl) (
  xval (s_lastore (by decide +kernel)) (
  xval (s_aload_n (f := 0) (by decide +kernel) rfl) (
  xval (s_getf (i := 16) (by decide +kernel) rfl tin_S (by decide) (tc tw_40)) (
  xval (s_aload_n (f := 0) (by decide +kernel) rfl) (
  xval (s_getf (i := 42) (by decide +kernel) rfl tin_S (by decide) (tc tw_60)) (
  xval (s_iload_n (f := 3) (by decide +kernel) rfl) (
  xval (s_iastore (by decide +kernel)) (
  xval (s_aload_n (f := 0) (by decide +kernel) rfl) (
  xval (s_getf (i := 20) (by decide +kernel) rfl tin_S (by decide) (tc tw_42)) (
  xval (s_aload_n (f := 0) (by decide +kernel) rfl) (
  xval (s_getf (i := 42) (by decide +kernel) rfl tin_S (by decide) (tc tw_60)) (
  xval (s_iload (by decide +kernel)) (
  xval (s_bastore (by decide +kernel)) (
  xval (s_aload_n (f := 0) (by decide +kernel) rfl) (
  xval (s_getf (i := 24) (by decide +kernel) rfl tin_S (by decide) (tc tw_45)) (
  xval (s_aload_n (f := 0) (by decide +kernel) rfl) (
  xval (s_getf (i := 42) (by decide +kernel) rfl tin_S (by decide) (tc tw_60)) (
  xval (s_iconst (z := 0) (by decide +kernel) (by decide)) (
  xval (s_iastore (by decide +kernel)) (
  xval (s_aload_n (f := 0) (by decide +kernel) rfl) (
  xval (s_getf (i := 27) (by decide +kernel) rfl tin_S (by decide) (tc tw_47)) (
  xval (s_aload_n (f := 0) (by decide +kernel) rfl) (
  xval (s_getf (i := 42) (by decide +kernel) rfl tin_S (by decide) (tc tw_60)) (
  xval (s_iload_n (f := 3) (by decide +kernel) rfl) (
  xval (s_iconst (z := (-1)) (by decide +kernel) (by decide)) (
  xval (s_icne (z := 7) (by decide +kernel) (by decide)) (
  xval (s_iconst (z := 0) (by decide +kernel) (by decide)) (
  xval (s_goto (z := 13) (by decide +kernel) (by decide)) (
  xval (s_aload_n (f := 0) (by decide +kernel) rfl) (
  xval (s_getf (i := 27) (by decide +kernel) rfl tin_S (by decide) (tc tw_47)) (
  xval (s_iload_n (f := 3) (by decide +kernel) rfl) (
  xval (s_iaload (by decide +kernel)) (
  xval (s_iconst (z := 1) (by decide +kernel) (by decide)) (
  xval (s_iload_n (f := 3) (by decide +kernel) rfl) (
  xval (s_ishl (by decide +kernel)) (
  xval (s_ior (by decide +kernel)) (
  xval (s_iastore (by decide +kernel)) (
  xval (s_vret (by decide +kernel)) (
  xval_nil)))))))))))))))))))))))))))))))))))))))))))))))))
theorem c_S_placeClass : xMet xCl y_S_placeClass ws_S_placeClass rm_S_placeClass (xRun tb_S_placeClass 5) := xMet.of (by decide) rfl v_S_placeClass
def tb_S_countPlacedClass : xT := [(0, o_aload 0 1), (1, o_dup), (2, o_getf 1 10), (5, o_i 1 1), (6, o_ii (fun a b => a + b)), (7, o_puti 1 10), (10, o_aload 0 1), (11, o_getf 1 10), (14, o_i 1 1), (15, o_ii (fun a b => a - b)), (16, o_iret)]
abbrev y_S_countPlacedClass : MethodName := ⟨"NameMover$Store", "countPlacedClass", "()I"⟩
abbrev rm_S_countPlacedClass : Room := { frames := 0, cells := 0, slots := 0, locals := 0 }
abbrev ws_S_countPlacedClass : List Cond := Cond.code y_S_countPlacedClass prog_8_method_15_code 1 (some .int) :: xtt
set_option maxRecDepth 100000 in
theorem v_S_countPlacedClass : ∀ q ∈ tb_S_countPlacedClass, xSd (0, 0) x0 xCl "NameMover$Store" ws_S_countPlacedClass prog_8_method_15_code 1 (some .int) rm_S_countPlacedClass q :=
  xval (s_aload_n (f := 0) (by decide +kernel) rfl) (
  xval (s_dup (by decide +kernel)) (
  xval (s_getf (i := 42) (by decide +kernel) rfl tin_S (by decide) (tc tw_60)) (
  xval (s_iconst (z := 1) (by decide +kernel) (by decide)) (
  xval (s_iadd (by decide +kernel)) (
  xval (s_puti (i := 42) (by decide +kernel) rfl tin_S (by decide) (tc tw_60) tS tS_ok nS rfl (by decide +kernel)) (
  xval (s_aload_n (f := 0) (by decide +kernel) rfl) (
  xval (s_getf (i := 42) (by decide +kernel) rfl tin_S (by decide) (tc tw_60)) (
  xval (s_iconst (z := 1) (by decide +kernel) (by decide)) (
  xval (s_isub (by decide +kernel)) (
  xval (s_iret (by decide +kernel)) (
  xval_nil)))))))))))
theorem c_S_countPlacedClass : xMet xCl y_S_countPlacedClass ws_S_countPlacedClass rm_S_countPlacedClass (xRun tb_S_countPlacedClass 1) := xMet.of (by decide) rfl v_S_countPlacedClass
def tb_N_declare : xT := [(0, o_lload 1 1), (1, o_call (xRun tb_T_isClassName 6) 1 1 0), (4, o_ifn (fun a => a = 0) 17), (7, o_throw 0 1), (17, o_iload 3 1), (18, o_i (-1) 1), (19, o_ic (fun a b => a = b) 43), (22, o_aload 0 1), (23, o_getf 0 0), (26, o_iload 3 1), (27, o_callV (xRun tb_S_isClass 2) 1 1 1 0), (30, o_ifn (fun a => a = 0) 43), (33, o_throw 1 1), (43, o_aload 0 1), (44, o_getf 0 0), (47, o_callV (xRun tb_S_isMoving 1) 1 0 1 0), (50, o_ifn (fun a => a = 0) 82), (53, o_aload 0 1), (54, o_getf 0 0), (57, o_callV (xRun tb_S_isFull 1) 1 0 1 0), (60, o_ifn (fun a => a = 0) 82), (63, o_aload 0 1), (64, o_getf 0 0), (67, o_lload 1 1), (68, o_aload 0 1), (69, o_getf 0 0), (72, o_getf 1 10), (75, o_callV (xRun tb_S_classNamed 5) 1 2 1 0), (78, o_i (-1) 1), (79, o_ic (fun a b => a = b) 92), (82, o_throw 2 1), (92, o_aload 0 1), (93, o_getf 0 0), (96, o_lload 1 1), (97, o_iload 3 1), (98, o_iload 4 2), (100, o_callV (xRun tb_S_placeClass 5) 1 3 1 0), (103, o_aload 0 1), (104, o_getf 0 0), (107, o_callV (xRun tb_S_countPlacedClass 1) 1 0 1 0), (110, o_iret)]
abbrev y_N_declare : MethodName := ⟨"NameMover", "declare", "(JIZ)I"⟩
abbrev rm_N_declare : Room := { frames := 6, cells := 1, slots := 6, locals := 106 }
abbrev ws_N_declare : List Cond := Cond.code y_N_declare prog_1_method_2_code 5 (some .int) :: xtt
set_option maxRecDepth 100000 in
theorem v_N_declare : ∀ q ∈ tb_N_declare, xSd (0, 0) x0 xCl "NameMover" ws_N_declare prog_1_method_2_code 5 (some .int) rm_N_declare q :=
  xval (s_lload_n (f := 1) (by decide +kernel) rfl) (
  xval (s_callS (i := 45) c_T_isClassName (by decide +kernel) rfl (xtt_good tw_269) (tc tw_267) (tc tw_268) (tc tw_7) ⟨by decide, by decide, by decide +kernel⟩ ⟨by decide, by decide, rfl, rfl, by decide, by decide⟩ x0_e) (
  xval (s_ifne (z := 13) (by decide +kernel) (by decide)) (
  xval (s_throw (i := 51) (ik := 53) (ic := 55) (j := 7) (bs := prog_13_method_2_code) (tx := "no class name") (by decide +kernel) (by decide +kernel) (by decide +kernel) (by decide +kernel) (by decide +kernel) (tc tw_279) (tc tw_280) (tc tw_11) (tc tw_321) (by decide +kernel) (by decide +kernel) (by decide +kernel) (by decide +kernel) (by decide +kernel) (tow_0 (tc tw_322)) ⟨by decide, by decide, by decide, by decide⟩ x0_e) (
  xval (s_iload_n (f := 3) (by decide +kernel) rfl) (
  xval (s_iconst (z := (-1)) (by decide +kernel) (by decide)) (
  xval (s_iceq (z := 24) (by decide +kernel) (by decide)) (
  xval (s_aload_n (f := 0) (by decide +kernel) rfl) (
  xval (s_getf (i := 10) (by decide +kernel) rfl tin_N (by decide) (tc tw_150)) (
  xval (s_iload_n (f := 3) (by decide +kernel) rfl) (
  xval (s_callV (i := 58) c_S_isClass (by decide +kernel) rfl (xtt_good tw_203) rfl (tc tw_348) (tc tw_201) (tc tw_202) (tc tw_2) ⟨by decide, by decide, by decide +kernel⟩ ⟨by decide, by decide, rfl, rfl, by decide, by decide⟩ x0_e) (
  xval (s_ifne (z := 13) (by decide +kernel) (by decide)) (
  xval (s_throw (i := 62) (ik := 64) (ic := 66) (j := 7) (bs := prog_15_method_2_code) (tx := "no such superclass") (by decide +kernel) (by decide +kernel) (by decide +kernel) (by decide +kernel) (by decide +kernel) (tc tw_349) (tc tw_350) (tc tw_12) (tc tw_358) (by decide +kernel) (by decide +kernel) (by decide +kernel) (by decide +kernel) (by decide +kernel) (tow_1 (tc tw_359)) ⟨by decide, by decide, by decide, by decide⟩ x0_e) (
  xval (s_aload_n (f := 0) (by decide +kernel) rfl) (
  xval (s_getf (i := 10) (by decide +kernel) rfl tin_N (by decide) (tc tw_150)) (
  xval (s_callV (i := 67) c_S_isMoving (by decide +kernel) rfl (xtt_good tw_368) rfl (tc tw_365) (tc tw_366) (tc tw_367) (tc tw_2) ⟨by decide, by decide, by decide +kernel⟩ ⟨by decide, by decide, rfl, rfl, by decide, by decide⟩ x0_e) (
  xval (s_ifne (z := 32) (by decide +kernel) (by decide)) (
  xval (s_aload_n (f := 0) (by decide +kernel) rfl) (
  xval (s_getf (i := 10) (by decide +kernel) rfl tin_N (by decide) (tc tw_150)) (
  xval (s_callV (i := 71) c_S_isFull (by decide +kernel) rfl (xtt_good tw_373) rfl (tc tw_370) (tc tw_371) (tc tw_372) (tc tw_2) ⟨by decide, by decide, by decide +kernel⟩ ⟨by decide, by decide, rfl, rfl, by decide, by decide⟩ x0_e) (
  xval (s_ifne (z := 22) (by decide +kernel) (by decide)) (
  xval (s_aload_n (f := 0) (by decide +kernel) rfl) (
  xval (s_getf (i := 10) (by decide +kernel) rfl tin_N (by decide) (tc tw_150)) (
  xval (s_lload_n (f := 1) (by decide +kernel) rfl) (
  xval (s_aload_n (f := 0) (by decide +kernel) rfl) (
  xval (s_getf (i := 10) (by decide +kernel) rfl tin_N (by decide) (tc tw_150)) (
  xval (s_getf (i := 74) (by decide +kernel) rfl tin_S (by decide) (tc tw_62)) (
  xval (s_callV (i := 78) c_S_classNamed (by decide +kernel) rfl (xtt_good tw_377) rfl (tc tw_374) (tc tw_375) (tc tw_376) (tc tw_2) ⟨by decide, by decide, by decide +kernel⟩ ⟨by decide, by decide, rfl, rfl, by decide, by decide⟩ x0_e) (
  xval (s_iconst (z := (-1)) (by decide +kernel) (by decide)) (
  xval (s_iceq (z := 13) (by decide +kernel) (by decide)) (
  xval (s_throw (i := 82) (ik := 84) (ic := 86) (j := 7) (bs := prog_14_method_2_code) (tx := "moving, 8 classes, or the name is taken") (by decide +kernel) (by decide +kernel) (by decide +kernel) (by decide +kernel) (by decide +kernel) (tc tw_378) (tc tw_379) (tc tw_13) (tc tw_387) (by decide +kernel) (by decide +kernel) (by decide +kernel) (by decide +kernel) (by decide +kernel) (tow_2 (tc tw_388)) ⟨by decide, by decide, by decide, by decide⟩ x0_e) (
  xval (s_aload_n (f := 0) (by decide +kernel) rfl) (
  xval (s_getf (i := 10) (by decide +kernel) rfl tin_N (by decide) (tc tw_150)) (
  xval (s_lload_n (f := 1) (by decide +kernel) rfl) (
  xval (s_iload_n (f := 3) (by decide +kernel) rfl) (
  xval (s_iload (by decide +kernel)) (
  xval (s_callV (i := 87) c_S_placeClass (by decide +kernel) rfl (xtt_good tw_397) rfl (tc tw_394) (tc tw_395) (tc tw_396) (tc tw_2) ⟨by decide, by decide, by decide +kernel⟩ ⟨by decide, by decide, rfl, rfl, by decide, by decide⟩ x0_e) (
  xval (s_aload_n (f := 0) (by decide +kernel) rfl) (
  xval (s_getf (i := 10) (by decide +kernel) rfl tin_N (by decide) (tc tw_150)) (
  xval (s_callV (i := 91) c_S_countPlacedClass (by decide +kernel) rfl (xtt_good tw_401) rfl (tc tw_398) (tc tw_399) (tc tw_400) (tc tw_2) ⟨by decide, by decide, by decide +kernel⟩ ⟨by decide, by decide, rfl, rfl, by decide, by decide⟩ x0_e) (
  xval (s_iret (by decide +kernel)) (
  xval_nil)))))))))))))))))))))))))))))))))))))))))
theorem c_N_declare : xMet xCl y_N_declare ws_N_declare rm_N_declare (xRun tb_N_declare 5) := xMet.of (by decide) rfl v_N_declare
def tb_N_requireClass : xT := [(0, o_aload 0 1), (1, o_getf 0 0), (4, o_iload 1 1), (5, o_callV (xRun tb_S_isClass 2) 1 1 1 0), (8, o_ifn (fun a => a = 0) 21), (11, o_throw 1 1), (21, o_vret)]
abbrev y_N_requireClass : MethodName := ⟨"NameMover", "requireClass", "(I)V"⟩
abbrev rm_N_requireClass : Room := { frames := 6, cells := 1, slots := 6, locals := 82 }
abbrev ws_N_requireClass : List Cond := Cond.code y_N_requireClass prog_1_method_19_code 2 (none) :: xtt
set_option maxRecDepth 100000 in
theorem v_N_requireClass : ∀ q ∈ tb_N_requireClass, xSd (0, 0) x0 xCl "NameMover" ws_N_requireClass prog_1_method_19_code 2 (none) rm_N_requireClass q :=
  xval (s_aload_n (f := 0) (by decide +kernel) rfl) (
  xval (s_getf (i := 10) (by decide +kernel) rfl tin_N (by decide) (tc tw_150)) (
  xval (s_iload_n (f := 1) (by decide +kernel) rfl) (
  xval (s_callV (i := 58) c_S_isClass (by decide +kernel) rfl (xtt_good tw_203) rfl (tc tw_348) (tc tw_201) (tc tw_202) (tc tw_2) ⟨by decide, by decide, by decide +kernel⟩ ⟨by decide, by decide, rfl, rfl, by decide, by decide⟩ x0_e) (
  xval (s_ifne (z := 13) (by decide +kernel) (by decide)) (
  xval (s_throw (i := 62) (ik := 217) (ic := 66) (j := 7) (bs := prog_15_method_2_code) (tx := "no such class") (by decide +kernel) (by decide +kernel) (by decide +kernel) (by decide +kernel) (by decide +kernel) (tc tw_349) (tc tw_350) (tc tw_12) (tc tw_413) (by decide +kernel) (by decide +kernel) (by decide +kernel) (by decide +kernel) (by decide +kernel) (tow_1 (tc tw_359)) ⟨by decide, by decide, by decide, by decide⟩ x0_e) (
  xval (s_vret (by decide +kernel)) (
  xval_nil)))))))
theorem c_N_requireClass : xMet xCl y_N_requireClass ws_N_requireClass rm_N_requireClass (xRun tb_N_requireClass 2) := xMet.of (by decide) rfl v_N_requireClass
end
section
def tb_T_lastSlash : xT := [(0, o_i 7 2), (2, o_istore 2 1), (3, o_iload 2 1), (4, o_if (fun a => a < 0) 23), (7, o_lload 0 1), (8, o_iload 2 1), (9, o_call (xRun tb_T_charAt 3) 2 0 0), (12, o_i 47 2), (14, o_ic (fun a b => a = b) 23), (17, o_iinc 2 (-1)), (20, o_goto 3), (23, o_iload 2 1), (24, o_iret)]
abbrev y_T_lastSlash : MethodName := ⟨"NameMover$Text", "lastSlash", "(J)I"⟩
abbrev rm_T_lastSlash : Room := { frames := 1, cells := 0, slots := 0, locals := 22 }
abbrev ws_T_lastSlash : List Cond := Cond.code y_T_lastSlash prog_9_method_11_code 3 (some .int) :: xtt
set_option maxRecDepth 100000 in
theorem v_T_lastSlash : ∀ q ∈ tb_T_lastSlash, xSd (0, 0) x0 xCl "NameMover$Text" ws_T_lastSlash prog_9_method_11_code 3 (some .int) rm_T_lastSlash q :=
  xval (s_bipush (z := 7) (by decide +kernel) (by decide)) (
  xval (s_istore_n (f := 2) (by decide +kernel) rfl (by decide)) (
  xval (s_iload_n (f := 2) (by decide +kernel) rfl) (
  xval (s_iflt (z := 19) (by decide +kernel) (by decide)) (
  xval (s_lload_n (f := 0) (by decide +kernel) rfl) (
  xval (s_iload_n (f := 2) (by decide +kernel) rfl) (
  xval (s_callS (i := 9) c_T_charAt (by decide +kernel) rfl (xtt_good tw_222) (tc tw_220) (tc tw_221) (tc tw_7) ⟨by decide, by decide, by decide +kernel⟩ ⟨by decide, by decide, rfl, rfl, by decide, by decide⟩ x0_e) (
  xval (s_bipush (z := 47) (by decide +kernel) (by decide)) (
  xval (s_iceq (z := 9) (by decide +kernel) (by decide)) (
  xval (s_iinc (z := (-1)) (by decide +kernel) (by decide) (by decide)) (
  xval (s_goto (z := (-17)) (by decide +kernel) (by decide)) (
  xval (s_iload_n (f := 2) (by decide +kernel) rfl) (
  xval (s_iret (by decide +kernel)) (
  xval_nil)))))))))))))
theorem c_T_lastSlash : xMet xCl y_T_lastSlash ws_T_lastSlash rm_T_lastSlash (xRun tb_T_lastSlash 3) := xMet.of (by decide) rfl v_T_lastSlash
def tb_T_isIdentifier : xT := [(0, o_lload 0 1), (1, o_call (xRun tb_T_isClassName 6) 1 0 0), (4, o_if (fun a => a = 0) 18), (7, o_lload 0 1), (8, o_call (xRun tb_T_lastSlash 3) 1 0 0), (11, o_if (fun a => 0 ≤ a) 18), (14, o_i 1 1), (15, o_goto 19), (18, o_i 0 1), (19, o_zret)]
abbrev y_T_isIdentifier : MethodName := ⟨"NameMover$Text", "isIdentifier", "(J)Z"⟩
abbrev rm_T_isIdentifier : Room := { frames := 3, cells := 0, slots := 0, locals := 69 }
abbrev ws_T_isIdentifier : List Cond := Cond.code y_T_isIdentifier prog_9_method_6_code 2 (some .boolean) :: xtt
set_option maxRecDepth 100000 in
theorem v_T_isIdentifier : ∀ q ∈ tb_T_isIdentifier, xSd (0, 0) x0 xCl "NameMover$Text" ws_T_isIdentifier prog_9_method_6_code 2 (some .boolean) rm_T_isIdentifier q :=
  xval (s_lload_n (f := 0) (by decide +kernel) rfl) (
  xval (s_callS (i := 24) c_T_isClassName (by decide +kernel) rfl (xtt_good tw_269) (tc tw_417) (tc tw_268) (tc tw_7) ⟨by decide, by decide, by decide +kernel⟩ ⟨by decide, by decide, rfl, rfl, by decide, by decide⟩ x0_e) (
  xval (s_ifeq (z := 14) (by decide +kernel) (by decide)) (
  xval (s_lload_n (f := 0) (by decide +kernel) rfl) (
  xval (s_callS (i := 28) c_T_lastSlash (by decide +kernel) rfl (xtt_good tw_219) (tc tw_217) (tc tw_218) (tc tw_7) ⟨by decide, by decide, by decide +kernel⟩ ⟨by decide, by decide, rfl, rfl, by decide, by decide⟩ x0_e) (
  xval (s_ifge (z := 7) (by decide +kernel) (by decide)) (
  xval (s_iconst (z := 1) (by decide +kernel) (by decide)) (
  xval (s_goto (z := 4) (by decide +kernel) (by decide)) (
  xval (s_iconst (z := 0) (by decide +kernel) (by decide)) (
  xval (s_zret (by decide +kernel)) (
  xval_nil))))))))))
theorem c_T_isIdentifier : xMet xCl y_T_isIdentifier ws_T_isIdentifier rm_T_isIdentifier (xRun tb_T_isIdentifier 2) := xMet.of (by decide) rfl v_T_isIdentifier
def tb_D_isMethod : xT := [(0, o_lload 0 1), (1, o_i 0 1), (2, o_call (xRun tb_T_charAt 3) 2 0 0), (5, o_i 40 2), (7, o_icn (fun a b => a = b) 14), (10, o_i 1 1), (11, o_goto 15), (14, o_i 0 1), (15, o_zret)]
abbrev y_D_isMethod : MethodName := ⟨"NameMover$Descriptor", "isMethod", "(J)Z"⟩
abbrev rm_D_isMethod : Room := { frames := 1, cells := 0, slots := 0, locals := 22 }
abbrev ws_D_isMethod : List Cond := Cond.code y_D_isMethod prog_5_method_3_code 2 (some .boolean) :: xtt
set_option maxRecDepth 100000 in
theorem v_D_isMethod : ∀ q ∈ tb_D_isMethod, xSd (0, 0) x0 xCl "NameMover$Descriptor" ws_D_isMethod prog_5_method_3_code 2 (some .boolean) rm_D_isMethod q :=
  xval (s_lload_n (f := 0) (by decide +kernel) rfl) (
  xval (s_iconst (z := 0) (by decide +kernel) (by decide)) (
  xval (s_callS (i := 27) c_T_charAt (by decide +kernel) rfl (xtt_good tw_222) (tc tw_425) (tc tw_221) (tc tw_7) ⟨by decide, by decide, by decide +kernel⟩ ⟨by decide, by decide, rfl, rfl, by decide, by decide⟩ x0_e) (
  xval (s_bipush (z := 40) (by decide +kernel) (by decide)) (
  xval (s_icne (z := 7) (by decide +kernel) (by decide)) (
  xval (s_iconst (z := 1) (by decide +kernel) (by decide)) (
  xval (s_goto (z := 4) (by decide +kernel) (by decide)) (
  xval (s_iconst (z := 0) (by decide +kernel) (by decide)) (
  xval (s_zret (by decide +kernel)) (
  xval_nil)))))))))
theorem c_D_isMethod : xMet xCl y_D_isMethod ws_D_isMethod rm_D_isMethod (xRun tb_D_isMethod 2) := xMet.of (by decide) rfl v_D_isMethod
def tb_D_isClassDigit : xT := [(0, o_iload 0 1), (1, o_i 48 2), (3, o_ic (fun a b => a < b) 18), (6, o_iload 0 1), (7, o_i 48 2), (9, o_iload 1 1), (10, o_ii (fun a b => a + b)), (11, o_ic (fun a b => b ≤ a) 18), (14, o_i 1 1), (15, o_goto 19), (18, o_i 0 1), (19, o_zret)]
abbrev y_D_isClassDigit : MethodName := ⟨"NameMover$Descriptor", "isClassDigit", "(II)Z"⟩
abbrev rm_D_isClassDigit : Room := { frames := 0, cells := 0, slots := 0, locals := 0 }
abbrev ws_D_isClassDigit : List Cond := Cond.code y_D_isClassDigit prog_5_method_4_code 2 (some .boolean) :: xtt
set_option maxRecDepth 100000 in
theorem v_D_isClassDigit : ∀ q ∈ tb_D_isClassDigit, xSd (0, 0) x0 xCl "NameMover$Descriptor" ws_D_isClassDigit prog_5_method_4_code 2 (some .boolean) rm_D_isClassDigit q :=
  xval (s_iload_n (f := 0) (by decide +kernel) rfl) (
  xval (s_bipush (z := 48) (by decide +kernel) (by decide)) (
  xval (s_iclt (z := 15) (by decide +kernel) (by decide)) (
  xval (s_iload_n (f := 0) (by decide +kernel) rfl) (
  xval (s_bipush (z := 48) (by decide +kernel) (by decide)) (
  xval (s_iload_n (f := 1) (by decide +kernel) rfl) (
  xval (s_iadd (by decide +kernel)) (
  xval (s_icge (z := 7) (by decide +kernel) (by decide)) (
  xval (s_iconst (z := 1) (by decide +kernel) (by decide)) (
  xval (s_goto (z := 4) (by decide +kernel) (by decide)) (
  xval (s_iconst (z := 0) (by decide +kernel) (by decide)) (
  xval (s_zret (by decide +kernel)) (
  xval_nil))))))))))))
theorem c_D_isClassDigit : xMet xCl y_D_isClassDigit ws_D_isClassDigit rm_D_isClassDigit (xRun tb_D_isClassDigit 2) := xMet.of (by decide) rfl v_D_isClassDigit
def tb_D_behindType : xT := [(0, o_iload 2 1), (1, o_istore 4 2), (3, o_iload 4 2), (5, o_i 8 2), (7, o_ic (fun a b => b ≤ a) 27), (10, o_lload 0 1), (11, o_iload 4 2), (13, o_call (xRun tb_T_charAt 3) 2 0 0), (16, o_i 91 2), (18, o_icn (fun a b => a = b) 27), (21, o_iinc 4 1), (24, o_goto 3), (27, o_lload 0 1), (28, o_iload 4 2), (30, o_call (xRun tb_T_charAt 3) 2 0 0), (33, o_istore 5 2), (35, o_iload 5 2), (37, o_i 73 2), (39, o_ic (fun a b => a = b) 65), (42, o_iload 5 2), (44, o_i 74 2), (46, o_ic (fun a b => a = b) 65), (49, o_iload 5 2), (51, o_i 90 2), (53, o_ic (fun a b => a = b) 65), (56, o_iload 5 2), (58, o_iload 3 1), (59, o_call (xRun tb_D_isClassDigit 2) 2 0 0), (62, o_if (fun a => a = 0) 69), (65, o_i 1 1), (66, o_goto 70), (69, o_i 0 1), (70, o_istore 6 2), (72, o_iload 6 2), (74, o_if (fun a => a = 0) 84), (77, o_iload 4 2), (79, o_i 1 1), (80, o_ii (fun a b => a + b)), (81, o_goto 85), (84, o_i (-1) 1), (85, o_iret)]
abbrev y_D_behindType : MethodName := ⟨"NameMover$Descriptor", "behindType", "(JII)I"⟩
abbrev rm_D_behindType : Room := { frames := 1, cells := 0, slots := 0, locals := 22 }
abbrev ws_D_behindType : List Cond := Cond.code y_D_behindType prog_5_method_6_code 7 (some .int) :: xtt
set_option maxRecDepth 100000 in
theorem v_D_behindType : ∀ q ∈ tb_D_behindType, xSd (0, 0) x0 xCl "NameMover$Descriptor" ws_D_behindType prog_5_method_6_code 7 (some .int) rm_D_behindType q :=
  xval (s_iload_n (f := 2) (by decide +kernel) rfl) (
  xval (s_istore (by decide +kernel) (by decide)) (
  xval (s_iload (by decide +kernel)) (
  xval (s_bipush (z := 8) (by decide +kernel) (by decide)) (
  xval (s_icge (z := 20) (by decide +kernel) (by decide)) (
  xval (s_lload_n (f := 0) (by decide +kernel) rfl) (
  xval (s_iload (by decide +kernel)) (
  xval (s_callS (i := 27) c_T_charAt (by decide +kernel) rfl (xtt_good tw_222) (tc tw_425) (tc tw_221) (tc tw_7) ⟨by decide, by decide, by decide +kernel⟩ ⟨by decide, by decide, rfl, rfl, by decide, by decide⟩ x0_e) (
  xval (s_bipush (z := 91) (by decide +kernel) (by decide)) (
  xval (s_icne (z := 9) (by decide +kernel) (by decide)) (
  xval (s_iinc (z := 1) (by decide +kernel) (by decide) (by decide)) (
  xval (s_goto (z := (-21)) (by decide +kernel) (by decide)) (
  xval (s_lload_n (f := 0) (by decide +kernel) rfl) (
  xval (s_iload (by decide +kernel)) (
  xval (s_callS (i := 27) c_T_charAt (by decide +kernel) rfl (xtt_good tw_222) (tc tw_425) (tc tw_221) (tc tw_7) ⟨by decide, by decide, by decide +kernel⟩ ⟨by decide, by decide, rfl, rfl, by decide, by decide⟩ x0_e) (
  xval (s_istore (by decide +kernel) (by decide)) (
  xval (s_iload (by decide +kernel)) (
  xval (s_bipush (z := 73) (by decide +kernel) (by decide)) (
  xval (s_iceq (z := 26) (by decide +kernel) (by decide)) (
  xval (s_iload (by decide +kernel)) (
  xval (s_bipush (z := 74) (by decide +kernel) (by decide)) (
  xval (s_iceq (z := 19) (by decide +kernel) (by decide)) (
  xval (s_iload (by decide +kernel)) (
  xval (s_bipush (z := 90) (by decide +kernel) (by decide)) (
  xval (s_iceq (z := 12) (by decide +kernel) (by decide)) (
  xval (s_iload (by decide +kernel)) (
  xval (s_iload_n (f := 3) (by decide +kernel) rfl) (
  xval (s_callS (i := 30) c_D_isClassDigit (by decide +kernel) rfl (xtt_good tw_431) (tc tw_429) (tc tw_430) (tc tw_14) ⟨by decide, by decide, by decide +kernel⟩ ⟨by decide, by decide, rfl, rfl, by decide, by decide⟩ x0_e) (
  xval (s_ifeq (z := 7) (by decide +kernel) (by decide)) (
  xval (s_iconst (z := 1) (by decide +kernel) (by decide)) (
  xval (s_goto (z := 4) (by decide +kernel) (by decide)) (
  xval (s_iconst (z := 0) (by decide +kernel) (by decide)) (
  xval (s_istore (by decide +kernel) (by decide)) (
  xval (s_iload (by decide +kernel)) (
  xval (s_ifeq (z := 10) (by decide +kernel) (by decide)) (
  xval (s_iload (by decide +kernel)) (
  xval (s_iconst (z := 1) (by decide +kernel) (by decide)) (
  xval (s_iadd (by decide +kernel)) (
  xval (s_goto (z := 4) (by decide +kernel) (by decide)) (
  xval (s_iconst (z := (-1)) (by decide +kernel) (by decide)) (
  xval (s_iret (by decide +kernel)) (
  xval_nil)))))))))))))))))))))))))))))))))))))))))
theorem c_D_behindType : xMet xCl y_D_behindType ws_D_behindType rm_D_behindType (xRun tb_D_behindType 7) := xMet.of (by decide) rfl v_D_behindType
def tb_D_behindParameters : xT := [(0, o_i 1 1), (1, o_istore 3 1), (2, o_i 0 1), (3, o_istore 4 2), (5, o_iload 4 2), (7, o_i 8 2), (9, o_ic (fun a b => b ≤ a) 46), (12, o_iload 3 1), (13, o_i (-1) 1), (14, o_icn (fun a b => a = b) 19), (17, o_i (-1) 1), (18, o_iret), (19, o_lload 0 1), (20, o_iload 3 1), (21, o_call (xRun tb_T_charAt 3) 2 0 0), (24, o_i 41 2), (26, o_icn (fun a b => a = b) 33), (29, o_iload 3 1), (30, o_i 1 1), (31, o_ii (fun a b => a + b)), (32, o_iret), (33, o_lload 0 1), (34, o_iload 3 1), (35, o_iload 2 1), (36, o_call (xRun tb_D_behindType 7) 3 0 0), (39, o_istore 3 1), (40, o_iinc 4 1), (43, o_goto 5), (46, o_i (-1) 1), (47, o_iret)]
abbrev y_D_behindParameters : MethodName := ⟨"NameMover$Descriptor", "behindParameters", "(JI)I"⟩
abbrev rm_D_behindParameters : Room := { frames := 2, cells := 0, slots := 0, locals := 48 }
abbrev ws_D_behindParameters : List Cond := Cond.code y_D_behindParameters prog_5_method_5_code 5 (some .int) :: xtt
set_option maxRecDepth 100000 in
theorem v_D_behindParameters : ∀ q ∈ tb_D_behindParameters, xSd (0, 0) x0 xCl "NameMover$Descriptor" ws_D_behindParameters prog_5_method_5_code 5 (some .int) rm_D_behindParameters q :=
  xval (s_iconst (z := 1) (by decide +kernel) (by decide)) (
  xval (s_istore_n (f := 3) (by decide +kernel) rfl (by decide)) (
  xval (s_iconst (z := 0) (by decide +kernel) (by decide)) (
  xval (s_istore (by decide +kernel) (by decide)) (
  xval (s_iload (by decide +kernel)) (
  xval (s_bipush (z := 8) (by decide +kernel) (by decide)) (
  xval (s_icge (z := 37) (by decide +kernel) (by decide)) (
  xval (s_iload_n (f := 3) (by decide +kernel) rfl) (
  xval (s_iconst (z := (-1)) (by decide +kernel) (by decide)) (
  xval (s_icne (z := 5) (by decide +kernel) (by decide)) (
  xval (s_iconst (z := (-1)) (by decide +kernel) (by decide)) (
  xval (s_iret (by decide +kernel)) (
  xval (s_lload_n (f := 0) (by decide +kernel) rfl) (
  xval (s_iload_n (f := 3) (by decide +kernel) rfl) (
  xval (s_callS (i := 27) c_T_charAt (by decide +kernel) rfl (xtt_good tw_222) (tc tw_425) (tc tw_221) (tc tw_7) ⟨by decide, by decide, by decide +kernel⟩ ⟨by decide, by decide, rfl, rfl, by decide, by decide⟩ x0_e) (
  xval (s_bipush (z := 41) (by decide +kernel) (by decide)) (
  xval (s_icne (z := 7) (by decide +kernel) (by decide)) (
  xval (s_iload_n (f := 3) (by decide +kernel) rfl) (
  xval (s_iconst (z := 1) (by decide +kernel) (by decide)) (
  xval (s_iadd (by decide +kernel)) (
  xval (s_iret (by decide +kernel)) (
  xval (s_lload_n (f := 0) (by decide +kernel) rfl) (
  xval (s_iload_n (f := 3) (by decide +kernel) rfl) (
  xval (s_iload_n (f := 2) (by decide +kernel) rfl) (
  xval (s_callS (i := 19) c_D_behindType (by decide +kernel) rfl (xtt_good tw_428) (tc tw_426) (tc tw_427) (tc tw_14) ⟨by decide, by decide, by decide +kernel⟩ ⟨by decide, by decide, rfl, rfl, by decide, by decide⟩ x0_e) (
  xval (s_istore_n (f := 3) (by decide +kernel) rfl (by decide)) (
  xval (s_iinc (z := 1) (by decide +kernel) (by decide) (by decide)) (
  xval (s_goto (z := (-38)) (by decide +kernel) (by decide)) (
  xval (s_iconst (z := (-1)) (by decide +kernel) (by decide)) (
  xval (s_iret (by decide +kernel)) (
  xval_nil))))))))))))))))))))))))))))))
theorem c_D_behindParameters : xMet xCl y_D_behindParameters ws_D_behindParameters rm_D_behindParameters (xRun tb_D_behindParameters 5) := xMet.of (by decide) rfl v_D_behindParameters
def tb_D_isOne : xT := [(0, o_lload 0 1), (1, o_call (xRun tb_T_length 3) 1 0 0), (4, o_istore 3 1), (5, o_lload 0 1), (6, o_call (xRun tb_D_isMethod 2) 1 0 0), (9, o_ifn (fun a => a = 0) 28), (12, o_lload 0 1), (13, o_i 0 1), (14, o_iload 2 1), (15, o_call (xRun tb_D_behindType 7) 3 0 0), (18, o_iload 3 1), (19, o_icn (fun a b => a = b) 26), (22, o_i 1 1), (23, o_goto 27), (26, o_i 0 1), (27, o_zret), (28, o_lload 0 1), (29, o_iload 2 1), (30, o_call (xRun tb_D_behindParameters 5) 2 0 0), (33, o_istore 4 2), (35, o_iload 4 2), (37, o_i (-1) 1), (38, o_icn (fun a b => a = b) 43), (41, o_i 0 1), (42, o_zret), (43, o_lload 0 1), (44, o_iload 4 2), (46, o_call (xRun tb_T_charAt 3) 2 0 0), (49, o_i 86 2), (51, o_icn (fun a b => a = b) 68), (54, o_iload 4 2), (56, o_i 1 1), (57, o_ii (fun a b => a + b)), (58, o_iload 3 1), (59, o_icn (fun a b => a = b) 66), (62, o_i 1 1), (63, o_goto 67), (66, o_i 0 1), (67, o_zret), (68, o_lload 0 1), (69, o_iload 4 2), (71, o_iload 2 1), (72, o_call (xRun tb_D_behindType 7) 3 0 0), (75, o_iload 3 1), (76, o_icn (fun a b => a = b) 83), (79, o_i 1 1), (80, o_goto 84), (83, o_i 0 1), (84, o_zret)]
abbrev y_D_isOne : MethodName := ⟨"NameMover$Descriptor", "isOne", "(JI)Z"⟩
abbrev rm_D_isOne : Room := { frames := 3, cells := 0, slots := 0, locals := 72 }
abbrev ws_D_isOne : List Cond := Cond.code y_D_isOne prog_5_method_2_code 5 (some .boolean) :: xtt
set_option maxRecDepth 100000 in
theorem v_D_isOne : ∀ q ∈ tb_D_isOne, xSd (0, 0) x0 xCl "NameMover$Descriptor" ws_D_isOne prog_5_method_2_code 5 (some .boolean) rm_D_isOne q :=
  xval (s_lload_n (f := 0) (by decide +kernel) rfl) (
  xval (s_callS (i := 7) c_T_length (by decide +kernel) rfl (xtt_good tw_272) (tc tw_421) (tc tw_271) (tc tw_7) ⟨by decide, by decide, by decide +kernel⟩ ⟨by decide, by decide, rfl, rfl, by decide, by decide⟩ x0_e) (
  xval (s_istore_n (f := 3) (by decide +kernel) rfl (by decide)) (
  xval (s_lload_n (f := 0) (by decide +kernel) rfl) (
  xval (s_callS (i := 13) c_D_isMethod (by decide +kernel) rfl (xtt_good tw_424) (tc tw_422) (tc tw_423) (tc tw_14) ⟨by decide, by decide, by decide +kernel⟩ ⟨by decide, by decide, rfl, rfl, by decide, by decide⟩ x0_e) (
  xval (s_ifne (z := 19) (by decide +kernel) (by decide)) (
  xval (s_lload_n (f := 0) (by decide +kernel) rfl) (
  xval (s_iconst (z := 0) (by decide +kernel) (by decide)) (
  xval (s_iload_n (f := 2) (by decide +kernel) rfl) (
  xval (s_callS (i := 19) c_D_behindType (by decide +kernel) rfl (xtt_good tw_428) (tc tw_426) (tc tw_427) (tc tw_14) ⟨by decide, by decide, by decide +kernel⟩ ⟨by decide, by decide, rfl, rfl, by decide, by decide⟩ x0_e) (
  xval (s_iload_n (f := 3) (by decide +kernel) rfl) (
  xval (s_icne (z := 7) (by decide +kernel) (by decide)) (
  xval (s_iconst (z := 1) (by decide +kernel) (by decide)) (
  xval (s_goto (z := 4) (by decide +kernel) (by decide)) (
  xval (s_iconst (z := 0) (by decide +kernel) (by decide)) (
  xval (s_zret (by decide +kernel)) (
  xval (s_lload_n (f := 0) (by decide +kernel) rfl) (
  xval (s_iload_n (f := 2) (by decide +kernel) rfl) (
  xval (s_callS (i := 23) c_D_behindParameters (by decide +kernel) rfl (xtt_good tw_434) (tc tw_432) (tc tw_433) (tc tw_14) ⟨by decide, by decide, by decide +kernel⟩ ⟨by decide, by decide, rfl, rfl, by decide, by decide⟩ x0_e) (
  xval (s_istore (by decide +kernel) (by decide)) (
  xval (s_iload (by decide +kernel)) (
  xval (s_iconst (z := (-1)) (by decide +kernel) (by decide)) (
  xval (s_icne (z := 5) (by decide +kernel) (by decide)) (
  xval (s_iconst (z := 0) (by decide +kernel) (by decide)) (
  xval (s_zret (by decide +kernel)) (
  xval (s_lload_n (f := 0) (by decide +kernel) rfl) (
  xval (s_iload (by decide +kernel)) (
  xval (s_callS (i := 27) c_T_charAt (by decide +kernel) rfl (xtt_good tw_222) (tc tw_425) (tc tw_221) (tc tw_7) ⟨by decide, by decide, by decide +kernel⟩ ⟨by decide, by decide, rfl, rfl, by decide, by decide⟩ x0_e) (
  xval (s_bipush (z := 86) (by decide +kernel) (by decide)) (
  xval (s_icne (z := 17) (by decide +kernel) (by decide)) (
  xval (s_iload (by decide +kernel)) (
  xval (s_iconst (z := 1) (by decide +kernel) (by decide)) (
  xval (s_iadd (by decide +kernel)) (
  xval (s_iload_n (f := 3) (by decide +kernel) rfl) (
  xval (s_icne (z := 7) (by decide +kernel) (by decide)) (
  xval (s_iconst (z := 1) (by decide +kernel) (by decide)) (
  xval (s_goto (z := 4) (by decide +kernel) (by decide)) (
  xval (s_iconst (z := 0) (by decide +kernel) (by decide)) (
  xval (s_zret (by decide +kernel)) (
  xval (s_lload_n (f := 0) (by decide +kernel) rfl) (
  xval (s_iload (by decide +kernel)) (
  xval (s_iload_n (f := 2) (by decide +kernel) rfl) (
  xval (s_callS (i := 19) c_D_behindType (by decide +kernel) rfl (xtt_good tw_428) (tc tw_426) (tc tw_427) (tc tw_14) ⟨by decide, by decide, by decide +kernel⟩ ⟨by decide, by decide, rfl, rfl, by decide, by decide⟩ x0_e) (
  xval (s_iload_n (f := 3) (by decide +kernel) rfl) (
  xval (s_icne (z := 7) (by decide +kernel) (by decide)) (
  xval (s_iconst (z := 1) (by decide +kernel) (by decide)) (
  xval (s_goto (z := 4) (by decide +kernel) (by decide)) (
  xval (s_iconst (z := 0) (by decide +kernel) (by decide)) (
  xval (s_zret (by decide +kernel)) (
  xval_nil)))))))))))))))))))))))))))))))))))))))))))))))))
theorem c_D_isOne : xMet xCl y_D_isOne ws_D_isOne rm_D_isOne (xRun tb_D_isOne 5) := xMet.of (by decide) rfl v_D_isOne
def tb_S_number : xT := [(0, o_i 8 2), (2, o_iload 0 1), (3, o_ii (fun a b => a * b)), (4, o_iload 1 1), (5, o_ii (fun a b => a + b)), (6, o_iret)]
abbrev y_S_number : MethodName := ⟨"NameMover$Store", "number", "(II)I"⟩
abbrev rm_S_number : Room := { frames := 0, cells := 0, slots := 0, locals := 0 }
abbrev ws_S_number : List Cond := Cond.code y_S_number prog_8_method_2_code 2 (some .int) :: xtt
set_option maxRecDepth 100000 in
theorem v_S_number : ∀ q ∈ tb_S_number, xSd (0, 0) x0 xCl "NameMover$Store" ws_S_number prog_8_method_2_code 2 (some .int) rm_S_number q :=
  xval (s_bipush (z := 8) (by decide +kernel) (by decide)) (
  xval (s_iload_n (f := 0) (by decide +kernel) rfl) (
  xval (s_imul (by decide +kernel)) (
  xval (s_iload_n (f := 1) (by decide +kernel) rfl) (
  xval (s_iadd (by decide +kernel)) (
  xval (s_iret (by decide +kernel)) (
  xval_nil))))))
theorem c_S_number : xMet xCl y_S_number ws_S_number rm_S_number (xRun tb_S_number 2) := xMet.of (by decide) rfl v_S_number
def tb_S_ownMember : xT := [(0, o_i 0 1), (1, o_istore 6 2), (3, o_iload 6 2), (5, o_aload 0 1), (6, o_getf 1 4), (9, o_iload 1 1), (10, o_iaload), (11, o_ic (fun a b => b ≤ a) 56), (14, o_iload 1 1), (15, o_iload 6 2), (17, o_call (xRun tb_S_number 2) 2 0 0), (20, o_istore 7 2), (22, o_aload 0 1), (23, o_getf 1 6), (26, o_iload 7 2), (28, o_laload), (29, o_lload 2 1), (30, o_lcmp), (31, o_ifn (fun a => a = 0) 50), (34, o_aload 0 1), (35, o_getf 1 8), (38, o_iload 7 2), (40, o_laload), (41, o_lload 4 2), (43, o_lcmp), (44, o_ifn (fun a => a = 0) 50), (47, o_iload 7 2), (49, o_iret), (50, o_iinc 6 1), (53, o_goto 3), (56, o_i (-1) 1), (57, o_iret)]
abbrev y_S_ownMember : MethodName := ⟨"NameMover$Store", "ownMember", "(IJJ)I"⟩
abbrev rm_S_ownMember : Room := { frames := 1, cells := 0, slots := 0, locals := 21 }
abbrev ws_S_ownMember : List Cond := Cond.code y_S_ownMember prog_8_method_10_code 8 (some .int) :: xtt
set_option maxRecDepth 100000 in
theorem v_S_ownMember : ∀ q ∈ tb_S_ownMember, xSd (0, 0) x0 xCl "NameMover$Store" ws_S_ownMember prog_8_method_10_code 8 (some .int) rm_S_ownMember q :=
  xval (s_iconst (z := 0) (by decide +kernel) (by decide)) (
  xval (s_istore (by decide +kernel) (by decide)) (
  xval (s_iload (by decide +kernel)) (
  xval (s_aload_n (f := 0) (by decide +kernel) rfl) (
  xval (s_getf (i := 24) (by decide +kernel) rfl tin_S (by decide) (tc tw_45)) (
  xval (s_iload_n (f := 1) (by decide +kernel) rfl) (
  xval (s_iaload (by decide +kernel)) (
  xval (s_icge (z := 45) (by decide +kernel) (by decide)) (
  xval (s_iload_n (f := 1) (by decide +kernel) rfl) (
  xval (s_iload (by decide +kernel)) (
  xval (s_callS (i := 58) c_S_number (by decide +kernel) rfl (xtt_good tw_446) (tc tw_444) (tc tw_445) (tc tw_2) ⟨by decide, by decide, by decide +kernel⟩ ⟨by decide, by decide, rfl, rfl, by decide, by decide⟩ x0_e) (
  xval (s_istore (by decide +kernel) (by decide)) (
  xval (s_aload_n (f := 0) (by decide +kernel) rfl) (
  xval (s_getf (i := 30) (by decide +kernel) rfl tin_S (by decide) (tc tw_48)) (
  xval (s_iload (by decide +kernel)) (
  xval (s_laload (by decide +kernel)) (
  xval (s_lload_n (f := 2) (by decide +kernel) rfl) (
  xval (s_lcmp (by decide +kernel)) (
  xval (s_ifne (z := 19) (by decide +kernel) (by decide)) (
  xval (s_aload_n (f := 0) (by decide +kernel) rfl) (
  xval (s_getf (i := 36) (by decide +kernel) rfl tin_S (by decide) (tc tw_55)) (
  xval (s_iload (by decide +kernel)) (
  xval (s_laload (by decide +kernel)) (
  xval (s_lload (by decide +kernel)) (
  xval (s_lcmp (by decide +kernel)) (
  xval (s_ifne (z := 6) (by decide +kernel) (by decide)) (
  xval (s_iload (by decide +kernel)) (
  xval (s_iret (by decide +kernel)) (
  xval (s_iinc (z := 1) (by decide +kernel) (by decide) (by decide)) (
  xval (s_goto (z := (-50)) (by decide +kernel) (by decide)) (
  xval (s_iconst (z := (-1)) (by decide +kernel) (by decide)) (
  xval (s_iret (by decide +kernel)) (
  xval_nil))))))))))))))))))))))))))))))))
theorem c_S_ownMember : xMet xCl y_S_ownMember ws_S_ownMember rm_S_ownMember (xRun tb_S_ownMember 8) := xMet.of (by decide) rfl v_S_ownMember
def tb_S_hasRoomFor : xT := [(0, o_aload 0 1), (1, o_getf 1 4), (4, o_iload 1 1), (5, o_iaload), (6, o_i 6 2), (8, o_ic (fun a b => b ≤ a) 27), (11, o_aload 0 1), (12, o_iload 1 1), (13, o_lload 2 1), (14, o_lload 4 2), (16, o_callV (xRun tb_S_ownMember 8) 1 3 0 0), (19, o_i (-1) 1), (20, o_icn (fun a b => a = b) 27), (23, o_i 1 1), (24, o_goto 28), (27, o_i 0 1), (28, o_zret)]
abbrev y_S_hasRoomFor : MethodName := ⟨"NameMover$Store", "hasRoomFor", "(IJJ)Z"⟩
abbrev rm_S_hasRoomFor : Room := { frames := 2, cells := 0, slots := 0, locals := 48 }
abbrev ws_S_hasRoomFor : List Cond := Cond.code y_S_hasRoomFor prog_8_method_13_code 6 (some .boolean) :: xtt
set_option maxRecDepth 100000 in
theorem v_S_hasRoomFor : ∀ q ∈ tb_S_hasRoomFor, xSd (0, 0) x0 xCl "NameMover$Store" ws_S_hasRoomFor prog_8_method_13_code 6 (some .boolean) rm_S_hasRoomFor q :=
  xval (s_aload_n (f := 0) (by decide +kernel) rfl) (
  xval (s_getf (i := 24) (by decide +kernel) rfl tin_S (by decide) (tc tw_45)) (
  xval (s_iload_n (f := 1) (by decide +kernel) rfl) (
  xval (s_iaload (by decide +kernel)) (
  xval (s_bipush (z := 6) (by decide +kernel) (by decide)) (
  xval (s_icge (z := 19) (by decide +kernel) (by decide)) (
  xval (s_aload_n (f := 0) (by decide +kernel) rfl) (
  xval (s_iload_n (f := 1) (by decide +kernel) rfl) (
  xval (s_lload_n (f := 2) (by decide +kernel) rfl) (
  xval (s_lload (by decide +kernel)) (
  xval (s_callV (i := 65) c_S_ownMember (by decide +kernel) rfl (xtt_good tw_443) rfl (tc tw_440) (tc tw_441) (tc tw_442) (tc tw_2) ⟨by decide, by decide, by decide +kernel⟩ ⟨by decide, by decide, rfl, rfl, by decide, by decide⟩ x0_e) (
  xval (s_iconst (z := (-1)) (by decide +kernel) (by decide)) (
  xval (s_icne (z := 7) (by decide +kernel) (by decide)) (
  xval (s_iconst (z := 1) (by decide +kernel) (by decide)) (
  xval (s_goto (z := 4) (by decide +kernel) (by decide)) (
  xval (s_iconst (z := 0) (by decide +kernel) (by decide)) (
  xval (s_zret (by decide +kernel)) (
  xval_nil)))))))))))))))))
theorem c_S_hasRoomFor : xMet xCl y_S_hasRoomFor ws_S_hasRoomFor rm_S_hasRoomFor (xRun tb_S_hasRoomFor 6) := xMet.of (by decide) rfl v_S_hasRoomFor
def tb_S_placeMember : xT := [(0, o_aload 0 1), (1, o_getf 1 4), (4, o_iload 1 1), (5, o_iaload), (6, o_istore 7 2), (8, o_iload 1 1), (9, o_iload 7 2), (11, o_call (xRun tb_S_number 2) 2 0 0), (14, o_istore 8 2), (16, o_aload 0 1), (17, o_getf 1 6), (20, o_iload 8 2), (22, o_lload 2 1), (23, o_lastore), (24, o_aload 0 1), (25, o_getf 1 7), (28, o_iload 8 2), (30, o_lload 2 1), (31, o_lastore), (32, o_aload 0 1), (33, o_getf 1 8), (36, o_iload 8 2), (38, o_lload 4 2), (40, o_lastore), (41, o_aload 0 1), (42, o_getf 1 9), (45, o_iload 8 2), (47, o_iload 6 2), (49, o_bastore), (50, o_aload 0 1), (51, o_getf 1 4), (54, o_iload 1 1), (55, o_iload 7 2), (57, o_i 1 1), (58, o_ii (fun a b => a + b)), (59, o_iastore), (60, o_iload 7 2), (62, o_iret)]
abbrev y_S_placeMember : MethodName := ⟨"NameMover$Store", "placeMember", "(IJJZ)I"⟩
abbrev rm_S_placeMember : Room := { frames := 1, cells := 0, slots := 0, locals := 21 }
abbrev ws_S_placeMember : List Cond := Cond.code y_S_placeMember prog_8_method_16_code 9 (some .int) :: xtt
set_option maxRecDepth 100000 in
theorem v_S_placeMember : ∀ q ∈ tb_S_placeMember, xSd (0, 0) x0 xCl "NameMover$Store" ws_S_placeMember prog_8_method_16_code 9 (some .int) rm_S_placeMember q :=
  xval (s_aload_n (f := 0) (by decide +kernel) rfl) (
  xval (s_getf (i := 24) (by decide +kernel) rfl tin_S (by decide) (tc tw_45)) (
  xval (s_iload_n (f := 1) (by decide +kernel) rfl) (
  xval (s_iaload (by decide +kernel)) (
  xval (s_istore (by decide +kernel) (by decide)) (
  xval (s_iload_n (f := 1) (by decide +kernel) rfl) (
  xval (s_iload (by decide +kernel)) (
  xval (s_callS (i := 58) c_S_number (by decide +kernel) rfl (xtt_good tw_446) (tc tw_444) (tc tw_445) (tc tw_2) ⟨by decide, by decide, by decide +kernel⟩ ⟨by decide, by decide, rfl, rfl, by decide, by decide⟩ x0_e) (
  xval (s_istore (by decide +kernel) (by decide)) (
  xval (s_aload_n (f := 0) (by decide +kernel) rfl) (
  xval (s_getf (i := 30) (by decide +kernel) rfl tin_S (by decide) (tc tw_48)) (
  xval (s_iload (by decide +kernel)) (
  xval (s_lload_n (f := 2) (by decide +kernel) rfl) (
  xval (s_lastore (by decide +kernel)) (
  xval (s_aload_n (f := 0) (by decide +kernel) rfl) (
  xval (s_getf (i := 33) (by decide +kernel) rfl tin_S (by decide) (tc tw_52)) (
  xval (s_iload (by decide +kernel)) (
  xval (s_lload_n (f := 2) (by decide +kernel) rfl) (
  xval (s_lastore (by decide +kernel)) (
  xval (s_aload_n (f := 0) (by decide +kernel) rfl) (
  xval (s_getf (i := 36) (by decide +kernel) rfl tin_S (by decide) (tc tw_55)) (
  xval (s_iload (by decide +kernel)) (
  xval (s_lload (by decide +kernel)) (
  xval (s_lastore (by decide +kernel)) (
  xval (s_aload_n (f := 0) (by decide +kernel) rfl) (
  xval (s_getf (i := 39) (by decide +kernel) rfl tin_S (by decide) (tc tw_58)) (
  xval (s_iload (by decide +kernel)) (
  xval (s_iload (by decide +kernel)) (
  xval (s_bastore (by decide +kernel)) (
  xval (s_aload_n (f := 0) (by decide +kernel) rfl) (
  xval (s_getf (i := 24) (by decide +kernel) rfl tin_S (by decide) (tc tw_45)) (
  xval (s_iload_n (f := 1) (by decide +kernel) rfl) (
  xval (s_iload (by decide +kernel)) (
  xval (s_iconst (z := 1) (by decide +kernel) (by decide)) (
  xval (s_iadd (by decide +kernel)) (
  xval (s_iastore (by decide +kernel)) (
  xval (s_iload (by decide +kernel)) (
  xval (s_iret (by decide +kernel)) (
  xval_nil))))))))))))))))))))))))))))))))))))))
theorem c_S_placeMember : xMet xCl y_S_placeMember ws_S_placeMember rm_S_placeMember (xRun tb_S_placeMember 9) := xMet.of (by decide) rfl v_S_placeMember
def tb_N_member : xT := [(0, o_aload 0 1), (1, o_iload 1 1), (2, o_callV (xRun tb_N_requireClass 2) 0 1 1 1), (5, o_lload 2 1), (6, o_call (xRun tb_T_isIdentifier 2) 1 1 0), (9, o_if (fun a => a = 0) 27), (12, o_lload 4 2), (14, o_aload 0 1), (15, o_getf 0 0), (18, o_getf 1 10), (21, o_call (xRun tb_D_isOne 5) 2 1 0), (24, o_ifn (fun a => a = 0) 37), (27, o_throw 0 1), (37, o_aload 0 1), (38, o_getf 0 0), (41, o_callV (xRun tb_S_isMoving 1) 1 0 1 0), (44, o_ifn (fun a => a = 0) 61), (47, o_aload 0 1), (48, o_getf 0 0), (51, o_iload 1 1), (52, o_lload 2 1), (53, o_lload 4 2), (55, o_callV (xRun tb_S_hasRoomFor 6) 1 3 1 0), (58, o_ifn (fun a => a = 0) 71), (61, o_throw 2 1), (71, o_aload 0 1), (72, o_getf 0 0), (75, o_iload 1 1), (76, o_lload 2 1), (77, o_lload 4 2), (79, o_iload 6 2), (81, o_callV (xRun tb_S_placeMember 9) 1 4 1 0), (84, o_iret)]
abbrev y_N_member : MethodName := ⟨"NameMover", "member", "(IJJZ)I"⟩
abbrev rm_N_member : Room := { frames := 7, cells := 1, slots := 6, locals := 106 }
abbrev ws_N_member : List Cond := Cond.code y_N_member prog_1_method_3_code 7 (some .int) :: xtt
set_option maxRecDepth 100000 in
theorem v_N_member : ∀ q ∈ tb_N_member, xSd (0, 0) x0 xCl "NameMover" ws_N_member prog_1_method_3_code 7 (some .int) rm_N_member q :=
  xval (s_aload_n (f := 0) (by decide +kernel) rfl) (
  xval (s_iload_n (f := 1) (by decide +kernel) rfl) (
  xval (s_callV (i := 95) c_N_requireClass (by decide +kernel) rfl (xtt_good tw_412) rfl (tc tw_409) (tc tw_411) (tc ts_1) (tc tw_1) ⟨by decide, by decide, by decide +kernel⟩ ⟨by decide, by decide, rfl, rfl, by decide, by decide⟩ x0_e) (
  xval (s_lload_n (f := 2) (by decide +kernel) rfl) (
  xval (s_callS (i := 99) c_T_isIdentifier (by decide +kernel) rfl (xtt_good tw_416) (tc tw_414) (tc tw_415) (tc tw_7) ⟨by decide, by decide, by decide +kernel⟩ ⟨by decide, by decide, rfl, rfl, by decide, by decide⟩ x0_e) (
  xval (s_ifeq (z := 18) (by decide +kernel) (by decide)) (
  xval (s_lload (by decide +kernel)) (
  xval (s_aload_n (f := 0) (by decide +kernel) rfl) (
  xval (s_getf (i := 10) (by decide +kernel) rfl tin_N (by decide) (tc tw_150)) (
  xval (s_getf (i := 74) (by decide +kernel) rfl tin_S (by decide) (tc tw_62)) (
  xval (s_callS (i := 102) c_D_isOne (by decide +kernel) rfl (xtt_good tw_420) (tc tw_418) (tc tw_419) (tc tw_14) ⟨by decide, by decide, by decide +kernel⟩ ⟨by decide, by decide, rfl, rfl, by decide, by decide⟩ x0_e) (
  xval (s_ifne (z := 13) (by decide +kernel) (by decide)) (
  xval (s_throw (i := 51) (ik := 108) (ic := 55) (j := 7) (bs := prog_13_method_2_code) (tx := "no identifier or no descriptor") (by decide +kernel) (by decide +kernel) (by decide +kernel) (by decide +kernel) (by decide +kernel) (tc tw_279) (tc tw_280) (tc tw_11) (tc tw_435) (by decide +kernel) (by decide +kernel) (by decide +kernel) (by decide +kernel) (by decide +kernel) (tow_0 (tc tw_322)) ⟨by decide, by decide, by decide, by decide⟩ x0_e) (
  xval (s_aload_n (f := 0) (by decide +kernel) rfl) (
  xval (s_getf (i := 10) (by decide +kernel) rfl tin_N (by decide) (tc tw_150)) (
  xval (s_callV (i := 67) c_S_isMoving (by decide +kernel) rfl (xtt_good tw_368) rfl (tc tw_365) (tc tw_366) (tc tw_367) (tc tw_2) ⟨by decide, by decide, by decide +kernel⟩ ⟨by decide, by decide, rfl, rfl, by decide, by decide⟩ x0_e) (
  xval (s_ifne (z := 17) (by decide +kernel) (by decide)) (
  xval (s_aload_n (f := 0) (by decide +kernel) rfl) (
  xval (s_getf (i := 10) (by decide +kernel) rfl tin_N (by decide) (tc tw_150)) (
  xval (s_iload_n (f := 1) (by decide +kernel) rfl) (
  xval (s_lload_n (f := 2) (by decide +kernel) rfl) (
  xval (s_lload (by decide +kernel)) (
  xval (s_callV (i := 110) c_S_hasRoomFor (by decide +kernel) rfl (xtt_good tw_439) rfl (tc tw_436) (tc tw_437) (tc tw_438) (tc tw_2) ⟨by decide, by decide, by decide +kernel⟩ ⟨by decide, by decide, rfl, rfl, by decide, by decide⟩ x0_e) (
  xval (s_ifne (z := 13) (by decide +kernel) (by decide)) (
  xval (s_throw (i := 82) (ik := 114) (ic := 86) (j := 7) (bs := prog_14_method_2_code) (tx := "moving, 6 members, or there is such a member") (by decide +kernel) (by decide +kernel) (by decide +kernel) (by decide +kernel) (by decide +kernel) (tc tw_378) (tc tw_379) (tc tw_13) (tc tw_447) (by decide +kernel) (by decide +kernel) (by decide +kernel) (by decide +kernel) (by decide +kernel) (tow_2 (tc tw_388)) ⟨by decide, by decide, by decide, by decide⟩ x0_e) (
  xval (s_aload_n (f := 0) (by decide +kernel) rfl) (
  xval (s_getf (i := 10) (by decide +kernel) rfl tin_N (by decide) (tc tw_150)) (
  xval (s_iload_n (f := 1) (by decide +kernel) rfl) (
  xval (s_lload_n (f := 2) (by decide +kernel) rfl) (
  xval (s_lload (by decide +kernel)) (
  xval (s_iload (by decide +kernel)) (
  xval (s_callV (i := 116) c_S_placeMember (by decide +kernel) rfl (xtt_good tw_451) rfl (tc tw_448) (tc tw_449) (tc tw_450) (tc tw_2) ⟨by decide, by decide, by decide +kernel⟩ ⟨by decide, by decide, rfl, rfl, by decide, by decide⟩ x0_e) (
  xval (s_iret (by decide +kernel)) (
  xval_nil)))))))))))))))))))))))))))))))))
theorem c_N_member : xMet xCl y_N_member ws_N_member rm_N_member (xRun tb_N_member 7) := xMet.of (by decide) rfl v_N_member
def tb_N_moveClass : xT := [(0, o_aload 0 1), (1, o_iload 1 1), (2, o_callV (xRun tb_N_requireClass 2) 0 1 1 1), (5, o_lload 2 1), (6, o_call (xRun tb_T_isClassName 6) 1 1 0), (9, o_ifn (fun a => a = 0) 22), (12, o_throw 0 1), (22, o_aload 0 1), (23, o_getf 0 0), (26, o_getf 1 1), (29, o_iload 1 1), (30, o_lload 2 1), (31, o_lastore), (32, o_vret)]
abbrev y_N_moveClass : MethodName := ⟨"NameMover", "moveClass", "(IJ)V"⟩
abbrev rm_N_moveClass : Room := { frames := 7, cells := 1, slots := 6, locals := 103 }
abbrev ws_N_moveClass : List Cond := Cond.code y_N_moveClass prog_1_method_4_code 4 (none) :: xtt
set_option maxRecDepth 100000 in
theorem v_N_moveClass : ∀ q ∈ tb_N_moveClass, xSd (0, 0) x0 xCl "NameMover" ws_N_moveClass prog_1_method_4_code 4 (none) rm_N_moveClass q :=
  xval (s_aload_n (f := 0) (by decide +kernel) rfl) (
  xval (s_iload_n (f := 1) (by decide +kernel) rfl) (
  xval (s_callV (i := 95) c_N_requireClass (by decide +kernel) rfl (xtt_good tw_412) rfl (tc tw_409) (tc tw_411) (tc ts_1) (tc tw_1) ⟨by decide, by decide, by decide +kernel⟩ ⟨by decide, by decide, rfl, rfl, by decide, by decide⟩ x0_e) (
  xval (s_lload_n (f := 2) (by decide +kernel) rfl) (
  xval (s_callS (i := 45) c_T_isClassName (by decide +kernel) rfl (xtt_good tw_269) (tc tw_267) (tc tw_268) (tc tw_7) ⟨by decide, by decide, by decide +kernel⟩ ⟨by decide, by decide, rfl, rfl, by decide, by decide⟩ x0_e) (
  xval (s_ifne (z := 13) (by decide +kernel) (by decide)) (
  xval (s_throw (i := 51) (ik := 53) (ic := 55) (j := 7) (bs := prog_13_method_2_code) (tx := "no class name") (by decide +kernel) (by decide +kernel) (by decide +kernel) (by decide +kernel) (by decide +kernel) (tc tw_279) (tc tw_280) (tc tw_11) (tc tw_321) (by decide +kernel) (by decide +kernel) (by decide +kernel) (by decide +kernel) (by decide +kernel) (tow_0 (tc tw_322)) ⟨by decide, by decide, by decide, by decide⟩ x0_e) (
  xval (s_aload_n (f := 0) (by decide +kernel) rfl) (
  xval (s_getf (i := 10) (by decide +kernel) rfl tin_N (by decide) (tc tw_150)) (
  xval (s_getf (i := 120) (by decide +kernel) rfl tin_S (by decide) (tc tw_39)) (
  xval (s_iload_n (f := 1) (by decide +kernel) rfl) (
  xval (s_lload_n (f := 2) (by decide +kernel) rfl) (
  xval (s_lastore (by decide +kernel)) (
  xval (s_vret (by decide +kernel)) (
  xval_nil))))))))))))))
theorem c_N_moveClass : xMet xCl y_N_moveClass ws_N_moveClass rm_N_moveClass (xRun tb_N_moveClass 4) := xMet.of (by decide) rfl v_N_moveClass
def tb_T_isPackage : xT := [(0, o_lload 0 1), (1, o_l 0 1), (2, o_lcmp), (3, o_if (fun a => a = 0) 13), (6, o_lload 0 1), (7, o_call (xRun tb_T_isClassName 6) 1 0 0), (10, o_if (fun a => a = 0) 17), (13, o_i 1 1), (14, o_goto 18), (17, o_i 0 1), (18, o_zret)]
abbrev y_T_isPackage : MethodName := ⟨"NameMover$Text", "isPackage", "(J)Z"⟩
abbrev rm_T_isPackage : Room := { frames := 3, cells := 0, slots := 0, locals := 69 }
abbrev ws_T_isPackage : List Cond := Cond.code y_T_isPackage prog_9_method_7_code 2 (some .boolean) :: xtt
set_option maxRecDepth 100000 in
theorem v_T_isPackage : ∀ q ∈ tb_T_isPackage, xSd (0, 0) x0 xCl "NameMover$Text" ws_T_isPackage prog_9_method_7_code 2 (some .boolean) rm_T_isPackage q :=
  xval (s_lload_n (f := 0) (by decide +kernel) rfl) (
  xval (s_lconst (z := 0) (by decide +kernel) (by decide)) (
  xval (s_lcmp (by decide +kernel)) (
  xval (s_ifeq (z := 10) (by decide +kernel) (by decide)) (
  xval (s_lload_n (f := 0) (by decide +kernel) rfl) (
  xval (s_callS (i := 24) c_T_isClassName (by decide +kernel) rfl (xtt_good tw_269) (tc tw_417) (tc tw_268) (tc tw_7) ⟨by decide, by decide, by decide +kernel⟩ ⟨by decide, by decide, rfl, rfl, by decide, by decide⟩ x0_e) (
  xval (s_ifeq (z := 7) (by decide +kernel) (by decide)) (
  xval (s_iconst (z := 1) (by decide +kernel) (by decide)) (
  xval (s_goto (z := 4) (by decide +kernel) (by decide)) (
  xval (s_iconst (z := 0) (by decide +kernel) (by decide)) (
  xval (s_zret (by decide +kernel)) (
  xval_nil)))))))))))
theorem c_T_isPackage : xMet xCl y_T_isPackage ws_T_isPackage rm_T_isPackage (xRun tb_T_isPackage 2) := xMet.of (by decide) rfl v_T_isPackage
def tb_T_packageOf : xT := [(0, o_lload 0 1), (1, o_call (xRun tb_T_lastSlash 3) 1 0 0), (4, o_istore 2 1), (5, o_iload 2 1), (6, o_if (fun a => 0 ≤ a) 13), (9, o_l 0 1), (10, o_goto 23), (13, o_lload 0 1), (14, o_l 1 1), (15, o_i 8 2), (17, o_iload 2 1), (18, o_ii (fun a b => a * b)), (19, o_li xshl), (20, o_l 1 1), (21, o_ll (fun a b => a - b)), (22, o_ll (fun a b => a &&& b)), (23, o_lret)]
abbrev y_T_packageOf : MethodName := ⟨"NameMover$Text", "packageOf", "(J)J"⟩
abbrev rm_T_packageOf : Room := { frames := 2, cells := 0, slots := 0, locals := 44 }
abbrev ws_T_packageOf : List Cond := Cond.code y_T_packageOf prog_9_method_8_code 3 (some .long) :: xtt
set_option maxRecDepth 100000 in
theorem v_T_packageOf : ∀ q ∈ tb_T_packageOf, xSd (0, 0) x0 xCl "NameMover$Text" ws_T_packageOf prog_9_method_8_code 3 (some .long) rm_T_packageOf q :=
  xval (s_lload_n (f := 0) (by decide +kernel) rfl) (
  xval (s_callS (i := 28) c_T_lastSlash (by decide +kernel) rfl (xtt_good tw_219) (tc tw_217) (tc tw_218) (tc tw_7) ⟨by decide, by decide, by decide +kernel⟩ ⟨by decide, by decide, rfl, rfl, by decide, by decide⟩ x0_e) (
  xval (s_istore_n (f := 2) (by decide +kernel) rfl (by decide)) (
  xval (s_iload_n (f := 2) (by decide +kernel) rfl) (
  xval (s_ifge (z := 7) (by decide +kernel) (by decide)) (
  xval (s_lconst (z := 0) (by decide +kernel) (by decide)) (
  xval (s_goto (z := 13) (by decide +kernel) (by decide)) (
  xval (s_lload_n (f := 0) (by decide +kernel) rfl) (
  xval (s_lconst (z := 1) (by decide +kernel) (by decide)) (
  xval (s_bipush (z := 8) (by decide +kernel) (by decide)) (
  xval (s_iload_n (f := 2) (by decide +kernel) rfl) (
  xval (s_imul (by decide +kernel)) (
  xval (s_lshl (by decide +kernel)) (
  xval (s_lconst (z := 1) (by decide +kernel) (by decide)) (
  xval (s_lsub (by decide +kernel)) (
  xval (s_land (by decide +kernel)) (
  xval (s_lret (by decide +kernel)) (
  xval_nil)))))))))))))))))
theorem c_T_packageOf : xMet xCl y_T_packageOf ws_T_packageOf rm_T_packageOf (xRun tb_T_packageOf 3) := xMet.of (by decide) rfl v_T_packageOf
def tb_S_goesWithPackage : xT := [(0, o_aload 0 1), (1, o_getf 1 3), (4, o_iload 1 1), (5, o_baload), (6, o_ifn (fun a => a = 0) 27), (9, o_aload 0 1), (10, o_getf 1 0), (13, o_iload 1 1), (14, o_laload), (15, o_call (xRun tb_T_packageOf 3) 1 0 0), (18, o_lload 2 1), (19, o_lcmp), (20, o_ifn (fun a => a = 0) 27), (23, o_i 1 1), (24, o_goto 28), (27, o_i 0 1), (28, o_zret)]
abbrev y_S_goesWithPackage : MethodName := ⟨"NameMover$Store", "goesWithPackage", "(IJ)Z"⟩
abbrev rm_S_goesWithPackage : Room := { frames := 3, cells := 0, slots := 0, locals := 66 }
abbrev ws_S_goesWithPackage : List Cond := Cond.code y_S_goesWithPackage prog_8_method_23_code 4 (some .boolean) :: xtt
set_option maxRecDepth 100000 in
theorem v_S_goesWithPackage : ∀ q ∈ tb_S_goesWithPackage, xSd (0, 0) x0 xCl "NameMover$Store" ws_S_goesWithPackage prog_8_method_23_code 4 (some .boolean) rm_S_goesWithPackage q :=
  xval (s_aload_n (f := 0) (by decide +kernel) rfl) (
  xval (s_getf (i := 20) (by decide +kernel) rfl tin_S (by decide) (tc tw_42)) (
  xval (s_iload_n (f := 1) (by decide +kernel) rfl) (
  xval (s_baload (by decide +kernel)) (
  xval (s_ifne (z := 21) (by decide +kernel) (by decide)) (
  xval (s_aload_n (f := 0) (by decide +kernel) rfl) (
  xval (s_getf (i := 9) (by decide +kernel) rfl tin_S (by decide) (tc tw_33)) (
  xval (s_iload_n (f := 1) (by decide +kernel) rfl) (
  xval (s_laload (by decide +kernel)) (
  xval (s_callS (i := 95) c_T_packageOf (by decide +kernel) rfl (xtt_good tw_216) (tc tw_477) (tc tw_215) (tc tw_7) ⟨by decide, by decide, by decide +kernel⟩ ⟨by decide, by decide, rfl, rfl, by decide, by decide⟩ x0_e) (
  xval (s_lload_n (f := 2) (by decide +kernel) rfl) (
  xval (s_lcmp (by decide +kernel)) (
  xval (s_ifne (z := 7) (by decide +kernel) (by decide)) (
  xval (s_iconst (z := 1) (by decide +kernel) (by decide)) (
  xval (s_goto (z := 4) (by decide +kernel) (by decide)) (
  xval (s_iconst (z := 0) (by decide +kernel) (by decide)) (
  xval (s_zret (by decide +kernel)) (
  xval_nil)))))))))))))))))
theorem c_S_goesWithPackage : xMet xCl y_S_goesWithPackage ws_S_goesWithPackage rm_S_goesWithPackage (xRun tb_S_goesWithPackage 4) := xMet.of (by decide) rfl v_S_goesWithPackage
end
section
def tb_T_lastIdentifier : xT := [(0, o_lload 0 1), (1, o_call (xRun tb_T_lastSlash 3) 1 0 0), (4, o_i 1 1), (5, o_ii (fun a b => a + b)), (6, o_istore 2 1), (7, o_iload 2 1), (8, o_i 8 2), (10, o_ic (fun a b => a < b) 17), (13, o_l 0 1), (14, o_goto 23), (17, o_lload 0 1), (18, o_i 8 2), (20, o_iload 2 1), (21, o_ii (fun a b => a * b)), (22, o_li xushr), (23, o_lret)]
abbrev y_T_lastIdentifier : MethodName := ⟨"NameMover$Text", "lastIdentifier", "(J)J"⟩
abbrev rm_T_lastIdentifier : Room := { frames := 2, cells := 0, slots := 0, locals := 44 }
abbrev ws_T_lastIdentifier : List Cond := Cond.code y_T_lastIdentifier prog_9_method_10_code 3 (some .long) :: xtt
set_option maxRecDepth 100000 in
theorem v_T_lastIdentifier : ∀ q ∈ tb_T_lastIdentifier, xSd (0, 0) x0 xCl "NameMover$Text" ws_T_lastIdentifier prog_9_method_10_code 3 (some .long) rm_T_lastIdentifier q :=
  xval (s_lload_n (f := 0) (by decide +kernel) rfl) (
  xval (s_callS (i := 28) c_T_lastSlash (by decide +kernel) rfl (xtt_good tw_219) (tc tw_217) (tc tw_218) (tc tw_7) ⟨by decide, by decide, by decide +kernel⟩ ⟨by decide, by decide, rfl, rfl, by decide, by decide⟩ x0_e) (
  xval (s_iconst (z := 1) (by decide +kernel) (by decide)) (
  xval (s_iadd (by decide +kernel)) (
  xval (s_istore_n (f := 2) (by decide +kernel) rfl (by decide)) (
  xval (s_iload_n (f := 2) (by decide +kernel) rfl) (
  xval (s_bipush (z := 8) (by decide +kernel) (by decide)) (
  xval (s_iclt (z := 7) (by decide +kernel) (by decide)) (
  xval (s_lconst (z := 0) (by decide +kernel) (by decide)) (
  xval (s_goto (z := 9) (by decide +kernel) (by decide)) (
  xval (s_lload_n (f := 0) (by decide +kernel) rfl) (
  xval (s_bipush (z := 8) (by decide +kernel) (by decide)) (
  xval (s_iload_n (f := 2) (by decide +kernel) rfl) (
  xval (s_imul (by decide +kernel)) (
  xval (s_lushr (by decide +kernel)) (
  xval (s_lret (by decide +kernel)) (
  xval_nil))))))))))))))))
theorem c_T_lastIdentifier : xMet xCl y_T_lastIdentifier ws_T_lastIdentifier rm_T_lastIdentifier (xRun tb_T_lastIdentifier 3) := xMet.of (by decide) rfl v_T_lastIdentifier
def tb_T_placed : xT := [(0, o_iload 1 1), (1, o_if (fun a => a < 0) 10), (4, o_iload 1 1), (5, o_i 8 2), (7, o_ic (fun a b => a < b) 14), (10, o_l 0 1), (11, o_goto 25), (14, o_iload 0 1), (15, o_i 255 3), (18, o_ii (fun a b => a &&& b)), (19, o_i2l), (20, o_i 8 2), (22, o_iload 1 1), (23, o_ii (fun a b => a * b)), (24, o_li xshl), (25, o_lret)]
abbrev y_T_placed : MethodName := ⟨"NameMover$Text", "placed", "(II)J"⟩
abbrev rm_T_placed : Room := { frames := 0, cells := 0, slots := 0, locals := 0 }
abbrev ws_T_placed : List Cond := Cond.code y_T_placed prog_9_method_3_code 2 (some .long) :: xtt
set_option maxRecDepth 100000 in
theorem v_T_placed : ∀ q ∈ tb_T_placed, xSd (0, 0) x0 xCl "NameMover$Text" ws_T_placed prog_9_method_3_code 2 (some .long) rm_T_placed q :=
  xval (s_iload_n (f := 1) (by decide +kernel) rfl) (
  xval (s_iflt (z := 9) (by decide +kernel) (by decide)) (
  xval (s_iload_n (f := 1) (by decide +kernel) rfl) (
  xval (s_bipush (z := 8) (by decide +kernel) (by decide)) (
  xval (s_iclt (z := 7) (by decide +kernel) (by decide)) (
  xval (s_lconst (z := 0) (by decide +kernel) (by decide)) (
  xval (s_goto (z := 14) (by decide +kernel) (by decide)) (
  xval (s_iload_n (f := 0) (by decide +kernel) rfl) (
  xval (s_sipush (z := 255) (by decide +kernel) (by decide)) (
  xval (s_iand (by decide +kernel)) (
  xval (s_i2l (by decide +kernel)) (
  xval (s_bipush (z := 8) (by decide +kernel) (by decide)) (
  xval (s_iload_n (f := 1) (by decide +kernel) rfl) (
  xval (s_imul (by decide +kernel)) (
  xval (s_lshl (by decide +kernel)) (
  xval (s_lret (by decide +kernel)) (
  xval_nil))))))))))))))))
theorem c_T_placed : xMet xCl y_T_placed ws_T_placed rm_T_placed (xRun tb_T_placed 2) := xMet.of (by decide) rfl v_T_placed
def tb_T_inPackage : xT := [(0, o_lload 0 1), (1, o_call (xRun tb_T_lastIdentifier 3) 1 0 0), (4, o_lstore 4 2), (6, o_lload 2 1), (7, o_l 0 1), (8, o_lcmp), (9, o_ifn (fun a => a = 0) 15), (12, o_lload 4 2), (14, o_lret), (15, o_lload 2 1), (16, o_call (xRun tb_T_length 3) 1 0 0), (19, o_istore 6 2), (21, o_iload 6 2), (23, o_i 1 1), (24, o_ii (fun a b => a + b)), (25, o_lload 4 2), (27, o_call (xRun tb_T_length 3) 1 0 0), (30, o_ii (fun a b => a + b)), (31, o_i 8 2), (33, o_ic (fun a b => a ≤ b) 38), (36, o_l 0 1), (37, o_lret), (38, o_lload 2 1), (39, o_i 47 2), (41, o_iload 6 2), (43, o_call (xRun tb_T_placed 2) 2 0 0), (46, o_ll (fun a b => a ||| b)), (47, o_lload 4 2), (49, o_i 8 2), (51, o_iload 6 2), (53, o_i 1 1), (54, o_ii (fun a b => a + b)), (55, o_ii (fun a b => a * b)), (56, o_li xshl), (57, o_ll (fun a b => a ||| b)), (58, o_lret)]
abbrev y_T_inPackage : MethodName := ⟨"NameMover$Text", "inPackage", "(JJ)J"⟩
abbrev rm_T_inPackage : Room := { frames := 3, cells := 0, slots := 0, locals := 66 }
abbrev ws_T_inPackage : List Cond := Cond.code y_T_inPackage prog_9_method_9_code 7 (some .long) :: xtt
set_option maxRecDepth 100000 in
theorem v_T_inPackage : ∀ q ∈ tb_T_inPackage, xSd (0, 0) x0 xCl "NameMover$Text" ws_T_inPackage prog_9_method_9_code 7 (some .long) rm_T_inPackage q :=
  xval (s_lload_n (f := 0) (by decide +kernel) rfl) (
  xval (s_callS (i := 31) c_T_lastIdentifier (by decide +kernel) rfl (xtt_good tw_483) (tc tw_481) (tc tw_482) (tc tw_7) ⟨by decide, by decide, by decide +kernel⟩ ⟨by decide, by decide, rfl, rfl, by decide, by decide⟩ x0_e) (
  xval (s_lstore (by decide +kernel) (by decide)) (
  xval (s_lload_n (f := 2) (by decide +kernel) rfl) (
  xval (s_lconst (z := 0) (by decide +kernel) (by decide)) (
  xval (s_lcmp (by decide +kernel)) (
  xval (s_ifne (z := 6) (by decide +kernel) (by decide)) (
  xval (s_lload (by decide +kernel)) (
  xval (s_lret (by decide +kernel)) (
  xval (s_lload_n (f := 2) (by decide +kernel) rfl) (
  xval (s_callS (i := 13) c_T_length (by decide +kernel) rfl (xtt_good tw_272) (tc tw_270) (tc tw_271) (tc tw_7) ⟨by decide, by decide, by decide +kernel⟩ ⟨by decide, by decide, rfl, rfl, by decide, by decide⟩ x0_e) (
  xval (s_istore (by decide +kernel) (by decide)) (
  xval (s_iload (by decide +kernel)) (
  xval (s_iconst (z := 1) (by decide +kernel) (by decide)) (
  xval (s_iadd (by decide +kernel)) (
  xval (s_lload (by decide +kernel)) (
  xval (s_callS (i := 13) c_T_length (by decide +kernel) rfl (xtt_good tw_272) (tc tw_270) (tc tw_271) (tc tw_7) ⟨by decide, by decide, by decide +kernel⟩ ⟨by decide, by decide, rfl, rfl, by decide, by decide⟩ x0_e) (
  xval (s_iadd (by decide +kernel)) (
  xval (s_bipush (z := 8) (by decide +kernel) (by decide)) (
  xval (s_icle (z := 5) (by decide +kernel) (by decide)) (
  xval (s_lconst (z := 0) (by decide +kernel) (by decide)) (
  xval (s_lret (by decide +kernel)) (
  xval (s_lload_n (f := 2) (by decide +kernel) rfl) (
  xval (s_bipush (z := 47) (by decide +kernel) (by decide)) (
  xval (s_iload (by decide +kernel)) (
  xval (s_callS (i := 35) c_T_placed (by decide +kernel) rfl (xtt_good tw_486) (tc tw_484) (tc tw_485) (tc tw_7) ⟨by decide, by decide, by decide +kernel⟩ ⟨by decide, by decide, rfl, rfl, by decide, by decide⟩ x0_e) (
  xval (s_lor (by decide +kernel)) (
  xval (s_lload (by decide +kernel)) (
  xval (s_bipush (z := 8) (by decide +kernel) (by decide)) (
  xval (s_iload (by decide +kernel)) (
  xval (s_iconst (z := 1) (by decide +kernel) (by decide)) (
  xval (s_iadd (by decide +kernel)) (
  xval (s_imul (by decide +kernel)) (
  xval (s_lshl (by decide +kernel)) (
  xval (s_lor (by decide +kernel)) (
  xval (s_lret (by decide +kernel)) (
  xval_nil))))))))))))))))))))))))))))))))))))
theorem c_T_inPackage : xMet xCl y_T_inPackage ws_T_inPackage rm_T_inPackage (xRun tb_T_inPackage 7) := xMet.of (by decide) rfl v_T_inPackage
def tb_S_fitsPackage : xT := [(0, o_i 0 1), (1, o_istore 5 2), (3, o_iload 5 2), (5, o_aload 0 1), (6, o_getf 1 10), (9, o_ic (fun a b => b ≤ a) 46), (12, o_aload 0 1), (13, o_iload 5 2), (15, o_lload 1 1), (16, o_callV (xRun tb_S_goesWithPackage 4) 1 2 0 0), (19, o_if (fun a => a = 0) 40), (22, o_aload 0 1), (23, o_getf 1 0), (26, o_iload 5 2), (28, o_laload), (29, o_lload 3 1), (30, o_call (xRun tb_T_inPackage 7) 2 0 0), (33, o_l 0 1), (34, o_lcmp), (35, o_ifn (fun a => a = 0) 40), (38, o_i 0 1), (39, o_zret), (40, o_iinc 5 1), (43, o_goto 3), (46, o_i 1 1), (47, o_zret)]
abbrev y_S_fitsPackage : MethodName := ⟨"NameMover$Store", "fitsPackage", "(JJ)Z"⟩
abbrev rm_S_fitsPackage : Room := { frames := 4, cells := 0, slots := 0, locals := 92 }
abbrev ws_S_fitsPackage : List Cond := Cond.code y_S_fitsPackage prog_8_method_21_code 6 (some .boolean) :: xtt
set_option maxRecDepth 100000 in
theorem v_S_fitsPackage : ∀ q ∈ tb_S_fitsPackage, xSd (0, 0) x0 xCl "NameMover$Store" ws_S_fitsPackage prog_8_method_21_code 6 (some .boolean) rm_S_fitsPackage q :=
  xval (s_iconst (z := 0) (by decide +kernel) (by decide)) (
  xval (s_istore (by decide +kernel) (by decide)) (
  xval (s_iload (by decide +kernel)) (
  xval (s_aload_n (f := 0) (by decide +kernel) rfl) (
  xval (s_getf (i := 42) (by decide +kernel) rfl tin_S (by decide) (tc tw_60)) (
  xval (s_icge (z := 37) (by decide +kernel) (by decide)) (
  xval (s_aload_n (f := 0) (by decide +kernel) rfl) (
  xval (s_iload (by decide +kernel)) (
  xval (s_lload_n (f := 1) (by decide +kernel) rfl) (
  xval (s_callV (i := 85) c_S_goesWithPackage (by decide +kernel) rfl (xtt_good tw_476) rfl (tc tw_473) (tc tw_475) (tc ts_2) (tc tw_2) ⟨by decide, by decide, by decide +kernel⟩ ⟨by decide, by decide, rfl, rfl, by decide, by decide⟩ x0_e) (
  xval (s_ifeq (z := 21) (by decide +kernel) (by decide)) (
  xval (s_aload_n (f := 0) (by decide +kernel) rfl) (
  xval (s_getf (i := 9) (by decide +kernel) rfl tin_S (by decide) (tc tw_33)) (
  xval (s_iload (by decide +kernel)) (
  xval (s_laload (by decide +kernel)) (
  xval (s_lload_n (f := 3) (by decide +kernel) rfl) (
  xval (s_callS (i := 89) c_T_inPackage (by decide +kernel) rfl (xtt_good tw_480) (tc tw_478) (tc tw_479) (tc tw_7) ⟨by decide, by decide, by decide +kernel⟩ ⟨by decide, by decide, rfl, rfl, by decide, by decide⟩ x0_e) (
  xval (s_lconst (z := 0) (by decide +kernel) (by decide)) (
  xval (s_lcmp (by decide +kernel)) (
  xval (s_ifne (z := 5) (by decide +kernel) (by decide)) (
  xval (s_iconst (z := 0) (by decide +kernel) (by decide)) (
  xval (s_zret (by decide +kernel)) (
  xval (s_iinc (z := 1) (by decide +kernel) (by decide) (by decide)) (
  xval (s_goto (z := (-40)) (by decide +kernel) (by decide)) (
  xval (s_iconst (z := 1) (by decide +kernel) (by decide)) (
  xval (s_zret (by decide +kernel)) (
  xval_nil))))))))))))))))))))))))))
theorem c_S_fitsPackage : xMet xCl y_S_fitsPackage ws_S_fitsPackage rm_S_fitsPackage (xRun tb_S_fitsPackage 6) := xMet.of (by decide) rfl v_S_fitsPackage
def tb_S_renamePackage : xT := [(0, o_i 0 1), (1, o_istore 5 2), (3, o_i 0 1), (4, o_istore 6 2), (6, o_iload 6 2), (8, o_aload 0 1), (9, o_getf 1 10), (12, o_ic (fun a b => b ≤ a) 52), (15, o_aload 0 1), (16, o_iload 6 2), (18, o_lload 1 1), (19, o_callV (xRun tb_S_goesWithPackage 4) 1 2 0 0), (22, o_if (fun a => a = 0) 46), (25, o_aload 0 1), (26, o_getf 1 1), (29, o_iload 6 2), (31, o_aload 0 1), (32, o_getf 1 0), (35, o_iload 6 2), (37, o_laload), (38, o_lload 3 1), (39, o_call (xRun tb_T_inPackage 7) 2 0 0), (42, o_lastore), (43, o_iinc 5 1), (46, o_iinc 6 1), (49, o_goto 6), (52, o_iload 5 2), (54, o_iret)]
abbrev y_S_renamePackage : MethodName := ⟨"NameMover$Store", "renamePackage", "(JJ)I"⟩
abbrev rm_S_renamePackage : Room := { frames := 4, cells := 0, slots := 0, locals := 92 }
abbrev ws_S_renamePackage : List Cond := Cond.code y_S_renamePackage prog_8_method_22_code 7 (some .int) :: xtt
set_option maxRecDepth 100000 in
theorem v_S_renamePackage : ∀ q ∈ tb_S_renamePackage, xSd (0, 0) x0 xCl "NameMover$Store" ws_S_renamePackage prog_8_method_22_code 7 (some .int) rm_S_renamePackage q :=
  xval (s_iconst (z := 0) (by decide +kernel) (by decide)) (
  xval (s_istore (by decide +kernel) (by decide)) (
  xval (s_iconst (z := 0) (by decide +kernel) (by decide)) (
  xval (s_istore (by decide +kernel) (by decide)) (
  xval (s_iload (by decide +kernel)) (
  xval (s_aload_n (f := 0) (by decide +kernel) rfl) (
  xval (s_getf (i := 42) (by decide +kernel) rfl tin_S (by decide) (tc tw_60)) (
  xval (s_icge (z := 40) (by decide +kernel) (by decide)) (
  xval (s_aload_n (f := 0) (by decide +kernel) rfl) (
  xval (s_iload (by decide +kernel)) (
  xval (s_lload_n (f := 1) (by decide +kernel) rfl) (
  xval (s_callV (i := 85) c_S_goesWithPackage (by decide +kernel) rfl (xtt_good tw_476) rfl (tc tw_473) (tc tw_475) (tc ts_2) (tc tw_2) ⟨by decide, by decide, by decide +kernel⟩ ⟨by decide, by decide, rfl, rfl, by decide, by decide⟩ x0_e) (
  xval (s_ifeq (z := 24) (by decide +kernel) (by decide)) (
  xval (s_aload_n (f := 0) (by decide +kernel) rfl) (
  xval (s_getf (i := 13) (by decide +kernel) rfl tin_S (by decide) (tc tw_37)) (
  xval (s_iload (by decide +kernel)) (
  xval (s_aload_n (f := 0) (by decide +kernel) rfl) (
  xval (s_getf (i := 9) (by decide +kernel) rfl tin_S (by decide) (tc tw_33)) (
  xval (s_iload (by decide +kernel)) (
  xval (s_laload (by decide +kernel)) (
  xval (s_lload_n (f := 3) (by decide +kernel) rfl) (
  xval (s_callS (i := 89) c_T_inPackage (by decide +kernel) rfl (xtt_good tw_480) (tc tw_478) (tc tw_479) (tc tw_7) ⟨by decide, by decide, by decide +kernel⟩ ⟨by decide, by decide, rfl, rfl, by decide, by decide⟩ x0_e) (
  xval (s_lastore (by decide +kernel)) (
  xval (s_iinc (z := 1) (by decide +kernel) (by decide) (by decide)) (
  xval (s_iinc (z := 1) (by decide +kernel) (by decide) (by decide)) (
  xval (s_goto (z := (-43)) (by decide +kernel) (by decide)) (
  xval (s_iload (by decide +kernel)) (
  xval (s_iret (by decide +kernel)) (
  xval_nil))))))))))))))))))))))))))))
theorem c_S_renamePackage : xMet xCl y_S_renamePackage ws_S_renamePackage rm_S_renamePackage (xRun tb_S_renamePackage 7) := xMet.of (by decide) rfl v_S_renamePackage
def tb_N_movePackage : xT := [(0, o_lload 1 1), (1, o_call (xRun tb_T_isPackage 2) 1 1 0), (4, o_if (fun a => a = 0) 26), (7, o_lload 3 1), (8, o_call (xRun tb_T_isPackage 2) 1 1 0), (11, o_if (fun a => a = 0) 26), (14, o_aload 0 1), (15, o_getf 0 0), (18, o_lload 1 1), (19, o_lload 3 1), (20, o_callV (xRun tb_S_fitsPackage 6) 1 2 1 0), (23, o_ifn (fun a => a = 0) 36), (26, o_throw 0 1), (36, o_aload 0 1), (37, o_getf 0 0), (40, o_lload 1 1), (41, o_lload 3 1), (42, o_callV (xRun tb_S_renamePackage 7) 1 2 1 0), (45, o_iret)]
abbrev y_N_movePackage : MethodName := ⟨"NameMover", "movePackage", "(JJ)I"⟩
abbrev rm_N_movePackage : Room := { frames := 6, cells := 1, slots := 6, locals := 118 }
abbrev ws_N_movePackage : List Cond := Cond.code y_N_movePackage prog_1_method_5_code 5 (some .int) :: xtt
set_option maxRecDepth 100000 in
theorem v_N_movePackage : ∀ q ∈ tb_N_movePackage, xSd (0, 0) x0 xCl "NameMover" ws_N_movePackage prog_1_method_5_code 5 (some .int) rm_N_movePackage q :=
  xval (s_lload_n (f := 1) (by decide +kernel) rfl) (
  xval (s_callS (i := 124) c_T_isPackage (by decide +kernel) rfl (xtt_good tw_468) (tc tw_466) (tc tw_467) (tc tw_7) ⟨by decide, by decide, by decide +kernel⟩ ⟨by decide, by decide, rfl, rfl, by decide, by decide⟩ x0_e) (
  xval (s_ifeq (z := 22) (by decide +kernel) (by decide)) (
  xval (s_lload_n (f := 3) (by decide +kernel) rfl) (
  xval (s_callS (i := 124) c_T_isPackage (by decide +kernel) rfl (xtt_good tw_468) (tc tw_466) (tc tw_467) (tc tw_7) ⟨by decide, by decide, by decide +kernel⟩ ⟨by decide, by decide, rfl, rfl, by decide, by decide⟩ x0_e) (
  xval (s_ifeq (z := 15) (by decide +kernel) (by decide)) (
  xval (s_aload_n (f := 0) (by decide +kernel) rfl) (
  xval (s_getf (i := 10) (by decide +kernel) rfl tin_N (by decide) (tc tw_150)) (
  xval (s_lload_n (f := 1) (by decide +kernel) rfl) (
  xval (s_lload_n (f := 3) (by decide +kernel) rfl) (
  xval (s_callV (i := 127) c_S_fitsPackage (by decide +kernel) rfl (xtt_good tw_472) rfl (tc tw_469) (tc tw_470) (tc tw_471) (tc tw_2) ⟨by decide, by decide, by decide +kernel⟩ ⟨by decide, by decide, rfl, rfl, by decide, by decide⟩ x0_e) (
  xval (s_ifne (z := 13) (by decide +kernel) (by decide)) (
  xval (s_throw (i := 51) (ik := 131) (ic := 55) (j := 7) (bs := prog_13_method_2_code) (tx := "no package, or a new name would be too long") (by decide +kernel) (by decide +kernel) (by decide +kernel) (by decide +kernel) (by decide +kernel) (tc tw_279) (tc tw_280) (tc tw_11) (tc tw_487) (by decide +kernel) (by decide +kernel) (by decide +kernel) (by decide +kernel) (by decide +kernel) (tow_0 (tc tw_322)) ⟨by decide, by decide, by decide, by decide⟩ x0_e) (
  xval (s_aload_n (f := 0) (by decide +kernel) rfl) (
  xval (s_getf (i := 10) (by decide +kernel) rfl tin_N (by decide) (tc tw_150)) (
  xval (s_lload_n (f := 1) (by decide +kernel) rfl) (
  xval (s_lload_n (f := 3) (by decide +kernel) rfl) (
  xval (s_callV (i := 133) c_S_renamePackage (by decide +kernel) rfl (xtt_good tw_491) rfl (tc tw_488) (tc tw_489) (tc tw_490) (tc tw_2) ⟨by decide, by decide, by decide +kernel⟩ ⟨by decide, by decide, rfl, rfl, by decide, by decide⟩ x0_e) (
  xval (s_iret (by decide +kernel)) (
  xval_nil)))))))))))))))))))
theorem c_N_movePackage : xMet xCl y_N_movePackage ws_N_movePackage rm_N_movePackage (xRun tb_N_movePackage 5) := xMet.of (by decide) rfl v_N_movePackage
def tb_N_requireMember : xT := [(0, o_aload 0 1), (1, o_getf 0 0), (4, o_iload 1 1), (5, o_iload 2 1), (6, o_callV (xRun tb_S_isMember 3) 1 2 1 0), (9, o_ifn (fun a => a = 0) 22), (12, o_throw 1 1), (22, o_vret)]
abbrev y_N_requireMember : MethodName := ⟨"NameMover", "requireMember", "(II)V"⟩
abbrev rm_N_requireMember : Room := { frames := 6, cells := 1, slots := 6, locals := 82 }
abbrev ws_N_requireMember : List Cond := Cond.code y_N_requireMember prog_1_method_20_code 3 (none) :: xtt
set_option maxRecDepth 100000 in
theorem v_N_requireMember : ∀ q ∈ tb_N_requireMember, xSd (0, 0) x0 xCl "NameMover" ws_N_requireMember prog_1_method_20_code 3 (none) rm_N_requireMember q :=
  xval (s_aload_n (f := 0) (by decide +kernel) rfl) (
  xval (s_getf (i := 10) (by decide +kernel) rfl tin_N (by decide) (tc tw_150)) (
  xval (s_iload_n (f := 1) (by decide +kernel) rfl) (
  xval (s_iload_n (f := 2) (by decide +kernel) rfl) (
  xval (s_callV (i := 219) c_S_isMember (by decide +kernel) rfl (xtt_good tw_199) rfl (tc tw_503) (tc tw_197) (tc tw_198) (tc tw_2) ⟨by decide, by decide, by decide +kernel⟩ ⟨by decide, by decide, rfl, rfl, by decide, by decide⟩ x0_e) (
  xval (s_ifne (z := 13) (by decide +kernel) (by decide)) (
  xval (s_throw (i := 62) (ik := 183) (ic := 66) (j := 7) (bs := prog_15_method_2_code) (tx := "no such member") (by decide +kernel) (by decide +kernel) (by decide +kernel) (by decide +kernel) (by decide +kernel) (tc tw_349) (tc tw_350) (tc tw_12) (tc tw_504) (by decide +kernel) (by decide +kernel) (by decide +kernel) (by decide +kernel) (by decide +kernel) (tow_1 (tc tw_359)) ⟨by decide, by decide, by decide, by decide⟩ x0_e) (
  xval (s_vret (by decide +kernel)) (
  xval_nil))))))))
theorem c_N_requireMember : xMet xCl y_N_requireMember ws_N_requireMember rm_N_requireMember (xRun tb_N_requireMember 3) := xMet.of (by decide) rfl v_N_requireMember
def tb_S_canOverride : xT := [(0, o_aload 0 1), (1, o_getf 1 9), (4, o_iload 1 1), (5, o_baload), (6, o_ifn (fun a => a = 0) 25), (9, o_aload 0 1), (10, o_getf 1 8), (13, o_iload 1 1), (14, o_laload), (15, o_call (xRun tb_D_isMethod 2) 1 0 0), (18, o_if (fun a => a = 0) 25), (21, o_i 1 1), (22, o_goto 26), (25, o_i 0 1), (26, o_zret)]
abbrev y_S_canOverride : MethodName := ⟨"NameMover$Store", "canOverride", "(I)Z"⟩
abbrev rm_S_canOverride : Room := { frames := 2, cells := 0, slots := 0, locals := 43 }
abbrev ws_S_canOverride : List Cond := Cond.code y_S_canOverride prog_8_method_26_code 2 (some .boolean) :: xtt
set_option maxRecDepth 100000 in
theorem v_S_canOverride : ∀ q ∈ tb_S_canOverride, xSd (0, 0) x0 xCl "NameMover$Store" ws_S_canOverride prog_8_method_26_code 2 (some .boolean) rm_S_canOverride q :=
  xval (s_aload_n (f := 0) (by decide +kernel) rfl) (
  xval (s_getf (i := 39) (by decide +kernel) rfl tin_S (by decide) (tc tw_58)) (
  xval (s_iload_n (f := 1) (by decide +kernel) rfl) (
  xval (s_baload (by decide +kernel)) (
  xval (s_ifne (z := 19) (by decide +kernel) (by decide)) (
  xval (s_aload_n (f := 0) (by decide +kernel) rfl) (
  xval (s_getf (i := 36) (by decide +kernel) rfl tin_S (by decide) (tc tw_55)) (
  xval (s_iload_n (f := 1) (by decide +kernel) rfl) (
  xval (s_laload (by decide +kernel)) (
  xval (s_callS (i := 108) c_D_isMethod (by decide +kernel) rfl (xtt_good tw_424) (tc tw_519) (tc tw_423) (tc tw_14) ⟨by decide, by decide, by decide +kernel⟩ ⟨by decide, by decide, rfl, rfl, by decide, by decide⟩ x0_e) (
  xval (s_ifeq (z := 7) (by decide +kernel) (by decide)) (
  xval (s_iconst (z := 1) (by decide +kernel) (by decide)) (
  xval (s_goto (z := 4) (by decide +kernel) (by decide)) (
  xval (s_iconst (z := 0) (by decide +kernel) (by decide)) (
  xval (s_zret (by decide +kernel)) (
  xval_nil)))))))))))))))
theorem c_S_canOverride : xMet xCl y_S_canOverride ws_S_canOverride rm_S_canOverride (xRun tb_S_canOverride 2) := xMet.of (by decide) rfl v_S_canOverride
def tb_S_isSameOrAncestor : xT := [(0, o_iload 1 1), (1, o_iload 2 1), (2, o_ic (fun a b => a = b) 19), (5, o_aload 0 1), (6, o_getf 1 5), (9, o_iload 2 1), (10, o_iaload), (11, o_iload 1 1), (12, o_ii (fun a b => a >>> (b &&& 31))), (13, o_i 1 1), (14, o_ii (fun a b => a &&& b)), (15, o_i 1 1), (16, o_icn (fun a b => a = b) 23), (19, o_i 1 1), (20, o_goto 24), (23, o_i 0 1), (24, o_zret)]
abbrev y_S_isSameOrAncestor : MethodName := ⟨"NameMover$Store", "isSameOrAncestor", "(II)Z"⟩
abbrev rm_S_isSameOrAncestor : Room := { frames := 0, cells := 0, slots := 0, locals := 0 }
abbrev ws_S_isSameOrAncestor : List Cond := Cond.code y_S_isSameOrAncestor prog_8_method_12_code 3 (some .boolean) :: xtt
set_option maxRecDepth 100000 in
theorem v_S_isSameOrAncestor : ∀ q ∈ tb_S_isSameOrAncestor, xSd (0, 0) x0 xCl "NameMover$Store" ws_S_isSameOrAncestor prog_8_method_12_code 3 (some .boolean) rm_S_isSameOrAncestor q :=
  xval (s_iload_n (f := 1) (by decide +kernel) rfl) (
  xval (s_iload_n (f := 2) (by decide +kernel) rfl) (
  xval (s_iceq (z := 17) (by decide +kernel) (by decide)) (
  xval (s_aload_n (f := 0) (by decide +kernel) rfl) (
  xval (s_getf (i := 27) (by decide +kernel) rfl tin_S (by decide) (tc tw_47)) (
  xval (s_iload_n (f := 2) (by decide +kernel) rfl) (
  xval (s_iaload (by decide +kernel)) (
  xval (s_iload_n (f := 1) (by decide +kernel) rfl) (
  xval (s_ishr (by decide +kernel)) (
  xval (s_iconst (z := 1) (by decide +kernel) (by decide)) (
  xval (s_iand (by decide +kernel)) (
  xval (s_iconst (z := 1) (by decide +kernel) (by decide)) (
  xval (s_icne (z := 7) (by decide +kernel) (by decide)) (
  xval (s_iconst (z := 1) (by decide +kernel) (by decide)) (
  xval (s_goto (z := 4) (by decide +kernel) (by decide)) (
  xval (s_iconst (z := 0) (by decide +kernel) (by decide)) (
  xval (s_zret (by decide +kernel)) (
  xval_nil)))))))))))))))))
theorem c_S_isSameOrAncestor : xMet xCl y_S_isSameOrAncestor ws_S_isSameOrAncestor rm_S_isSameOrAncestor (xRun tb_S_isSameOrAncestor 3) := xMet.of (by decide) rfl v_S_isSameOrAncestor
def tb_S_familyTop : xT := [(0, o_iload 1 1), (1, o_call (xRun tb_S_classOf 1) 1 0 0), (4, o_istore 2 1), (5, o_i 0 1), (6, o_istore 3 1), (7, o_iload 3 1), (8, o_iload 2 1), (9, o_ic (fun a b => b ≤ a) 67), (12, o_aload 0 1), (13, o_iload 3 1), (14, o_iload 2 1), (15, o_callV (xRun tb_S_isSameOrAncestor 3) 1 2 0 0), (18, o_if (fun a => a = 0) 41), (21, o_aload 0 1), (22, o_iload 3 1), (23, o_aload 0 1), (24, o_getf 1 6), (27, o_iload 1 1), (28, o_laload), (29, o_aload 0 1), (30, o_getf 1 8), (33, o_iload 1 1), (34, o_laload), (35, o_callV (xRun tb_S_ownMember 8) 1 3 0 0), (38, o_goto 42), (41, o_i (-1) 1), (42, o_istore 4 2), (44, o_iload 4 2), (46, o_i (-1) 1), (47, o_ic (fun a b => a = b) 61), (50, o_aload 0 1), (51, o_iload 4 2), (53, o_callV (xRun tb_S_canOverride 2) 1 1 0 0), (56, o_if (fun a => a = 0) 61), (59, o_iload 3 1), (60, o_iret), (61, o_iinc 3 1), (64, o_goto 7), (67, o_iload 2 1), (68, o_iret)]
abbrev y_S_familyTop : MethodName := ⟨"NameMover$Store", "familyTop", "(I)I"⟩
abbrev rm_S_familyTop : Room := { frames := 3, cells := 0, slots := 0, locals := 64 }
abbrev ws_S_familyTop : List Cond := Cond.code y_S_familyTop prog_8_method_27_code 5 (some .int) :: xtt
set_option maxRecDepth 100000 in
theorem v_S_familyTop : ∀ q ∈ tb_S_familyTop, xSd (0, 0) x0 xCl "NameMover$Store" ws_S_familyTop prog_8_method_27_code 5 (some .int) rm_S_familyTop q :=
  xval (s_iload_n (f := 1) (by decide +kernel) rfl) (
  xval (s_callS (i := 50) c_S_classOf (by decide +kernel) rfl (xtt_good tw_195) (tc tw_193) (tc tw_194) (tc tw_2) ⟨by decide, by decide, by decide +kernel⟩ ⟨by decide, by decide, rfl, rfl, by decide, by decide⟩ x0_e) (
  xval (s_istore_n (f := 2) (by decide +kernel) rfl (by decide)) (
  xval (s_iconst (z := 0) (by decide +kernel) (by decide)) (
  xval (s_istore_n (f := 3) (by decide +kernel) rfl (by decide)) (
  xval (s_iload_n (f := 3) (by decide +kernel) rfl) (
  xval (s_iload_n (f := 2) (by decide +kernel) rfl) (
  xval (s_icge (z := 58) (by decide +kernel) (by decide)) (
  xval (s_aload_n (f := 0) (by decide +kernel) rfl) (
  xval (s_iload_n (f := 3) (by decide +kernel) rfl) (
  xval (s_iload_n (f := 2) (by decide +kernel) rfl) (
  xval (s_callV (i := 62) c_S_isSameOrAncestor (by decide +kernel) rfl (xtt_good tw_235) rfl (tc tw_524) (tc tw_233) (tc tw_234) (tc tw_2) ⟨by decide, by decide, by decide +kernel⟩ ⟨by decide, by decide, rfl, rfl, by decide, by decide⟩ x0_e) (
  xval (s_ifeq (z := 23) (by decide +kernel) (by decide)) (
  xval (s_aload_n (f := 0) (by decide +kernel) rfl) (
  xval (s_iload_n (f := 3) (by decide +kernel) rfl) (
  xval (s_aload_n (f := 0) (by decide +kernel) rfl) (
  xval (s_getf (i := 30) (by decide +kernel) rfl tin_S (by decide) (tc tw_48)) (
  xval (s_iload_n (f := 1) (by decide +kernel) rfl) (
  xval (s_laload (by decide +kernel)) (
  xval (s_aload_n (f := 0) (by decide +kernel) rfl) (
  xval (s_getf (i := 36) (by decide +kernel) rfl tin_S (by decide) (tc tw_55)) (
  xval (s_iload_n (f := 1) (by decide +kernel) rfl) (
  xval (s_laload (by decide +kernel)) (
  xval (s_callV (i := 65) c_S_ownMember (by decide +kernel) rfl (xtt_good tw_443) rfl (tc tw_440) (tc tw_441) (tc tw_442) (tc tw_2) ⟨by decide, by decide, by decide +kernel⟩ ⟨by decide, by decide, rfl, rfl, by decide, by decide⟩ x0_e) (
  xval (s_goto (z := 4) (by decide +kernel) (by decide)) (
  xval (s_iconst (z := (-1)) (by decide +kernel) (by decide)) (
  xval (s_istore (by decide +kernel) (by decide)) (
  xval (s_iload (by decide +kernel)) (
  xval (s_iconst (z := (-1)) (by decide +kernel) (by decide)) (
  xval (s_iceq (z := 14) (by decide +kernel) (by decide)) (
  xval (s_aload_n (f := 0) (by decide +kernel) rfl) (
  xval (s_iload (by decide +kernel)) (
  xval (s_callV (i := 102) c_S_canOverride (by decide +kernel) rfl (xtt_good tw_518) rfl (tc tw_515) (tc tw_517) (tc ts_5) (tc tw_2) ⟨by decide, by decide, by decide +kernel⟩ ⟨by decide, by decide, rfl, rfl, by decide, by decide⟩ x0_e) (
  xval (s_ifeq (z := 5) (by decide +kernel) (by decide)) (
  xval (s_iload_n (f := 3) (by decide +kernel) rfl) (
  xval (s_iret (by decide +kernel)) (
  xval (s_iinc (z := 1) (by decide +kernel) (by decide) (by decide)) (
  xval (s_goto (z := (-57)) (by decide +kernel) (by decide)) (
  xval (s_iload_n (f := 2) (by decide +kernel) rfl) (
  xval (s_iret (by decide +kernel)) (
  xval_nil))))))))))))))))))))))))))))))))))))))))
theorem c_S_familyTop : xMet xCl y_S_familyTop ws_S_familyTop rm_S_familyTop (xRun tb_S_familyTop 5) := xMet.of (by decide) rfl v_S_familyTop
def tb_S_inOneFamily : xT := [(0, o_iload 1 1), (1, o_iload 2 1), (2, o_icn (fun a b => a = b) 7), (5, o_i 1 1), (6, o_zret), (7, o_aload 0 1), (8, o_iload 1 1), (9, o_callV (xRun tb_S_canOverride 2) 1 1 0 0), (12, o_if (fun a => a = 0) 72), (15, o_aload 0 1), (16, o_iload 2 1), (17, o_callV (xRun tb_S_canOverride 2) 1 1 0 0), (20, o_if (fun a => a = 0) 72), (23, o_aload 0 1), (24, o_getf 1 6), (27, o_iload 1 1), (28, o_laload), (29, o_aload 0 1), (30, o_getf 1 6), (33, o_iload 2 1), (34, o_laload), (35, o_lcmp), (36, o_ifn (fun a => a = 0) 72), (39, o_aload 0 1), (40, o_getf 1 8), (43, o_iload 1 1), (44, o_laload), (45, o_aload 0 1), (46, o_getf 1 8), (49, o_iload 2 1), (50, o_laload), (51, o_lcmp), (52, o_ifn (fun a => a = 0) 72), (55, o_aload 0 1), (56, o_iload 1 1), (57, o_callV (xRun tb_S_familyTop 5) 1 1 0 0), (60, o_aload 0 1), (61, o_iload 2 1), (62, o_callV (xRun tb_S_familyTop 5) 1 1 0 0), (65, o_icn (fun a b => a = b) 72), (68, o_i 1 1), (69, o_goto 73), (72, o_i 0 1), (73, o_zret)]
abbrev y_S_inOneFamily : MethodName := ⟨"NameMover$Store", "inOneFamily", "(II)Z"⟩
abbrev rm_S_inOneFamily : Room := { frames := 4, cells := 0, slots := 0, locals := 88 }
abbrev ws_S_inOneFamily : List Cond := Cond.code y_S_inOneFamily prog_8_method_25_code 3 (some .boolean) :: xtt
set_option maxRecDepth 100000 in
theorem v_S_inOneFamily : ∀ q ∈ tb_S_inOneFamily, xSd (0, 0) x0 xCl "NameMover$Store" ws_S_inOneFamily prog_8_method_25_code 3 (some .boolean) rm_S_inOneFamily q :=
  xval (s_iload_n (f := 1) (by decide +kernel) rfl) (
  xval (s_iload_n (f := 2) (by decide +kernel) rfl) (
  xval (s_icne (z := 5) (by decide +kernel) (by decide)) (
  xval (s_iconst (z := 1) (by decide +kernel) (by decide)) (
  xval (s_zret (by decide +kernel)) (
  xval (s_aload_n (f := 0) (by decide +kernel) rfl) (
  xval (s_iload_n (f := 1) (by decide +kernel) rfl) (
  xval (s_callV (i := 102) c_S_canOverride (by decide +kernel) rfl (xtt_good tw_518) rfl (tc tw_515) (tc tw_517) (tc ts_5) (tc tw_2) ⟨by decide, by decide, by decide +kernel⟩ ⟨by decide, by decide, rfl, rfl, by decide, by decide⟩ x0_e) (
  xval (s_ifeq (z := 60) (by decide +kernel) (by decide)) (
  xval (s_aload_n (f := 0) (by decide +kernel) rfl) (
  xval (s_iload_n (f := 2) (by decide +kernel) rfl) (
  xval (s_callV (i := 102) c_S_canOverride (by decide +kernel) rfl (xtt_good tw_518) rfl (tc tw_515) (tc tw_517) (tc ts_5) (tc tw_2) ⟨by decide, by decide, by decide +kernel⟩ ⟨by decide, by decide, rfl, rfl, by decide, by decide⟩ x0_e) (
  xval (s_ifeq (z := 52) (by decide +kernel) (by decide)) (
  xval (s_aload_n (f := 0) (by decide +kernel) rfl) (
  xval (s_getf (i := 30) (by decide +kernel) rfl tin_S (by decide) (tc tw_48)) (
  xval (s_iload_n (f := 1) (by decide +kernel) rfl) (
  xval (s_laload (by decide +kernel)) (
  xval (s_aload_n (f := 0) (by decide +kernel) rfl) (
  xval (s_getf (i := 30) (by decide +kernel) rfl tin_S (by decide) (tc tw_48)) (
  xval (s_iload_n (f := 2) (by decide +kernel) rfl) (
  xval (s_laload (by decide +kernel)) (
  xval (s_lcmp (by decide +kernel)) (
  xval (s_ifne (z := 36) (by decide +kernel) (by decide)) (
  xval (s_aload_n (f := 0) (by decide +kernel) rfl) (
  xval (s_getf (i := 36) (by decide +kernel) rfl tin_S (by decide) (tc tw_55)) (
  xval (s_iload_n (f := 1) (by decide +kernel) rfl) (
  xval (s_laload (by decide +kernel)) (
  xval (s_aload_n (f := 0) (by decide +kernel) rfl) (
  xval (s_getf (i := 36) (by decide +kernel) rfl tin_S (by decide) (tc tw_55)) (
  xval (s_iload_n (f := 2) (by decide +kernel) rfl) (
  xval (s_laload (by decide +kernel)) (
  xval (s_lcmp (by decide +kernel)) (
  xval (s_ifne (z := 20) (by decide +kernel) (by decide)) (
  xval (s_aload_n (f := 0) (by decide +kernel) rfl) (
  xval (s_iload_n (f := 1) (by decide +kernel) rfl) (
  xval (s_callV (i := 105) c_S_familyTop (by decide +kernel) rfl (xtt_good tw_523) rfl (tc tw_520) (tc tw_522) (tc ts_6) (tc tw_2) ⟨by decide, by decide, by decide +kernel⟩ ⟨by decide, by decide, rfl, rfl, by decide, by decide⟩ x0_e) (
  xval (s_aload_n (f := 0) (by decide +kernel) rfl) (
  xval (s_iload_n (f := 2) (by decide +kernel) rfl) (
  xval (s_callV (i := 105) c_S_familyTop (by decide +kernel) rfl (xtt_good tw_523) rfl (tc tw_520) (tc tw_522) (tc ts_6) (tc tw_2) ⟨by decide, by decide, by decide +kernel⟩ ⟨by decide, by decide, rfl, rfl, by decide, by decide⟩ x0_e) (
  xval (s_icne (z := 7) (by decide +kernel) (by decide)) (
  xval (s_iconst (z := 1) (by decide +kernel) (by decide)) (
  xval (s_goto (z := 4) (by decide +kernel) (by decide)) (
  xval (s_iconst (z := 0) (by decide +kernel) (by decide)) (
  xval (s_zret (by decide +kernel)) (
  xval_nil))))))))))))))))))))))))))))))))))))))))))))
theorem c_S_inOneFamily : xMet xCl y_S_inOneFamily ws_S_inOneFamily rm_S_inOneFamily (xRun tb_S_inOneFamily 3) := xMet.of (by decide) rfl v_S_inOneFamily
def tb_S_renameFamily : xT := [(0, o_i 0 1), (1, o_istore 4 2), (3, o_i 0 1), (4, o_istore 5 2), (6, o_iload 5 2), (8, o_aload 0 1), (9, o_callV (xRun tb_S_numbersEnd 1) 1 0 0 0), (12, o_ic (fun a b => b ≤ a) 51), (15, o_aload 0 1), (16, o_iload 5 2), (18, o_callV (xRun tb_S_isMemberNumber 2) 1 1 0 0), (21, o_if (fun a => a = 0) 45), (24, o_aload 0 1), (25, o_iload 1 1), (26, o_iload 5 2), (28, o_callV (xRun tb_S_inOneFamily 3) 1 2 0 0), (31, o_if (fun a => a = 0) 45), (34, o_aload 0 1), (35, o_getf 1 7), (38, o_iload 5 2), (40, o_lload 2 1), (41, o_lastore), (42, o_iinc 4 1), (45, o_iinc 5 1), (48, o_goto 6), (51, o_iload 4 2), (53, o_iret)]
abbrev y_S_renameFamily : MethodName := ⟨"NameMover$Store", "renameFamily", "(IJ)I"⟩
abbrev rm_S_renameFamily : Room := { frames := 5, cells := 0, slots := 0, locals := 110 }
abbrev ws_S_renameFamily : List Cond := Cond.code y_S_renameFamily prog_8_method_24_code 6 (some .int) :: xtt
set_option maxRecDepth 100000 in
theorem v_S_renameFamily : ∀ q ∈ tb_S_renameFamily, xSd (0, 0) x0 xCl "NameMover$Store" ws_S_renameFamily prog_8_method_24_code 6 (some .int) rm_S_renameFamily q :=
  xval (s_iconst (z := 0) (by decide +kernel) (by decide)) (
  xval (s_istore (by decide +kernel) (by decide)) (
  xval (s_iconst (z := 0) (by decide +kernel) (by decide)) (
  xval (s_istore (by decide +kernel) (by decide)) (
  xval (s_iload (by decide +kernel)) (
  xval (s_aload_n (f := 0) (by decide +kernel) rfl) (
  xval (s_callV (i := 73) c_S_numbersEnd (by decide +kernel) rfl (xtt_good tw_188) rfl (tc tw_244) (tc tw_186) (tc tw_187) (tc tw_2) ⟨by decide, by decide, by decide +kernel⟩ ⟨by decide, by decide, rfl, rfl, by decide, by decide⟩ x0_e) (
  xval (s_icge (z := 39) (by decide +kernel) (by decide)) (
  xval (s_aload_n (f := 0) (by decide +kernel) rfl) (
  xval (s_iload (by decide +kernel)) (
  xval (s_callV (i := 76) c_S_isMemberNumber (by decide +kernel) rfl (xtt_good tw_192) rfl (tc tw_245) (tc tw_190) (tc tw_191) (tc tw_2) ⟨by decide, by decide, by decide +kernel⟩ ⟨by decide, by decide, rfl, rfl, by decide, by decide⟩ x0_e) (
  xval (s_ifeq (z := 24) (by decide +kernel) (by decide)) (
  xval (s_aload_n (f := 0) (by decide +kernel) rfl) (
  xval (s_iload_n (f := 1) (by decide +kernel) rfl) (
  xval (s_iload (by decide +kernel)) (
  xval (s_callV (i := 99) c_S_inOneFamily (by decide +kernel) rfl (xtt_good tw_514) rfl (tc tw_511) (tc tw_513) (tc ts_4) (tc tw_2) ⟨by decide, by decide, by decide +kernel⟩ ⟨by decide, by decide, rfl, rfl, by decide, by decide⟩ x0_e) (
  xval (s_ifeq (z := 14) (by decide +kernel) (by decide)) (
  xval (s_aload_n (f := 0) (by decide +kernel) rfl) (
  xval (s_getf (i := 33) (by decide +kernel) rfl tin_S (by decide) (tc tw_52)) (
  xval (s_iload (by decide +kernel)) (
  xval (s_lload_n (f := 2) (by decide +kernel) rfl) (
  xval (s_lastore (by decide +kernel)) (
  xval (s_iinc (z := 1) (by decide +kernel) (by decide) (by decide)) (
  xval (s_iinc (z := 1) (by decide +kernel) (by decide) (by decide)) (
  xval (s_goto (z := (-42)) (by decide +kernel) (by decide)) (
  xval (s_iload (by decide +kernel)) (
  xval (s_iret (by decide +kernel)) (
  xval_nil)))))))))))))))))))))))))))
theorem c_S_renameFamily : xMet xCl y_S_renameFamily ws_S_renameFamily rm_S_renameFamily (xRun tb_S_renameFamily 6) := xMet.of (by decide) rfl v_S_renameFamily
def tb_N_moveMember : xT := [(0, o_aload 0 1), (1, o_iload 1 1), (2, o_iload 2 1), (3, o_callV (xRun tb_N_requireMember 3) 0 2 1 1), (6, o_lload 3 1), (7, o_call (xRun tb_T_isIdentifier 2) 1 1 0), (10, o_ifn (fun a => a = 0) 23), (13, o_throw 0 1), (23, o_aload 0 1), (24, o_getf 0 0), (27, o_iload 1 1), (28, o_iload 2 1), (29, o_call (xRun tb_S_number 2) 2 1 0), (32, o_lload 3 1), (33, o_callV (xRun tb_S_renameFamily 6) 1 2 1 0), (36, o_iret)]
abbrev y_N_moveMember : MethodName := ⟨"NameMover", "moveMember", "(IIJ)I"⟩
abbrev rm_N_moveMember : Room := { frames := 7, cells := 1, slots := 6, locals := 135 }
abbrev ws_N_moveMember : List Cond := Cond.code y_N_moveMember prog_1_method_6_code 5 (some .int) :: xtt
set_option maxRecDepth 100000 in
theorem v_N_moveMember : ∀ q ∈ tb_N_moveMember, xSd (0, 0) x0 xCl "NameMover" ws_N_moveMember prog_1_method_6_code 5 (some .int) rm_N_moveMember q :=
  xval (s_aload_n (f := 0) (by decide +kernel) rfl) (
  xval (s_iload_n (f := 1) (by decide +kernel) rfl) (
  xval (s_iload_n (f := 2) (by decide +kernel) rfl) (
  xval (s_callV (i := 137) c_N_requireMember (by decide +kernel) rfl (xtt_good tw_502) rfl (tc tw_499) (tc tw_501) (tc ts_3) (tc tw_1) ⟨by decide, by decide, by decide +kernel⟩ ⟨by decide, by decide, rfl, rfl, by decide, by decide⟩ x0_e) (
  xval (s_lload_n (f := 3) (by decide +kernel) rfl) (
  xval (s_callS (i := 99) c_T_isIdentifier (by decide +kernel) rfl (xtt_good tw_416) (tc tw_414) (tc tw_415) (tc tw_7) ⟨by decide, by decide, by decide +kernel⟩ ⟨by decide, by decide, rfl, rfl, by decide, by decide⟩ x0_e) (
  xval (s_ifne (z := 13) (by decide +kernel) (by decide)) (
  xval (s_throw (i := 51) (ik := 141) (ic := 55) (j := 7) (bs := prog_13_method_2_code) (tx := "no identifier") (by decide +kernel) (by decide +kernel) (by decide +kernel) (by decide +kernel) (by decide +kernel) (tc tw_279) (tc tw_280) (tc tw_11) (tc tw_505) (by decide +kernel) (by decide +kernel) (by decide +kernel) (by decide +kernel) (by decide +kernel) (tow_0 (tc tw_322)) ⟨by decide, by decide, by decide, by decide⟩ x0_e) (
  xval (s_aload_n (f := 0) (by decide +kernel) rfl) (
  xval (s_getf (i := 10) (by decide +kernel) rfl tin_N (by decide) (tc tw_150)) (
  xval (s_iload_n (f := 1) (by decide +kernel) rfl) (
  xval (s_iload_n (f := 2) (by decide +kernel) rfl) (
  xval (s_callS (i := 143) c_S_number (by decide +kernel) rfl (xtt_good tw_446) (tc tw_506) (tc tw_445) (tc tw_2) ⟨by decide, by decide, by decide +kernel⟩ ⟨by decide, by decide, rfl, rfl, by decide, by decide⟩ x0_e) (
  xval (s_lload_n (f := 3) (by decide +kernel) rfl) (
  xval (s_callV (i := 147) c_S_renameFamily (by decide +kernel) rfl (xtt_good tw_510) rfl (tc tw_507) (tc tw_508) (tc tw_509) (tc tw_2) ⟨by decide, by decide, by decide +kernel⟩ ⟨by decide, by decide, rfl, rfl, by decide, by decide⟩ x0_e) (
  xval (s_iret (by decide +kernel)) (
  xval_nil))))))))))))))))
theorem c_N_moveMember : xMet xCl y_N_moveMember ws_N_moveMember rm_N_moveMember (xRun tb_N_moveMember 5) := xMet.of (by decide) rfl v_N_moveMember
def tb_P_told : xT := [(0, o_i 10000 3), (3, o_iload 0 1), (4, o_ii (fun a b => a * b)), (5, o_i 100 2), (7, o_iload 1 1), (8, o_ii (fun a b => a * b)), (9, o_ii (fun a b => a + b)), (10, o_iload 2 1), (11, o_ii (fun a b => a + b)), (12, o_iret)]
abbrev y_P_told : MethodName := ⟨"NameMover$Problems", "told", "(III)I"⟩
abbrev rm_P_told : Room := { frames := 0, cells := 0, slots := 0, locals := 0 }
abbrev ws_P_told : List Cond := Cond.code y_P_told prog_7_method_3_code 3 (some .int) :: xtt
set_option maxRecDepth 100000 in
theorem v_P_told : ∀ q ∈ tb_P_told, xSd (0, 0) x0 xCl "NameMover$Problems" ws_P_told prog_7_method_3_code 3 (some .int) rm_P_told q :=
  xval (s_sipush (z := 10000) (by decide +kernel) (by decide)) (
  xval (s_iload_n (f := 0) (by decide +kernel) rfl) (
  xval (s_imul (by decide +kernel)) (
  xval (s_bipush (z := 100) (by decide +kernel) (by decide)) (
  xval (s_iload_n (f := 1) (by decide +kernel) rfl) (
  xval (s_imul (by decide +kernel)) (
  xval (s_iadd (by decide +kernel)) (
  xval (s_iload_n (f := 2) (by decide +kernel) rfl) (
  xval (s_iadd (by decide +kernel)) (
  xval (s_iret (by decide +kernel)) (
  xval_nil))))))))))
theorem c_P_told : xMet xCl y_P_told ws_P_told rm_P_told (xRun tb_P_told 3) := xMet.of (by decide) rfl v_P_told
def tb_P_libraryClass : xT := [(0, o_i 0 1), (1, o_istore 1 1), (2, o_iload 1 1), (3, o_aload 0 1), (4, o_getf 1 10), (7, o_ic (fun a b => b ≤ a) 48), (10, o_aload 0 1), (11, o_getf 1 3), (14, o_iload 1 1), (15, o_baload), (16, o_if (fun a => a = 0) 42), (19, o_aload 0 1), (20, o_getf 1 1), (23, o_iload 1 1), (24, o_laload), (25, o_aload 0 1), (26, o_getf 1 0), (29, o_iload 1 1), (30, o_laload), (31, o_lcmp), (32, o_if (fun a => a = 0) 42), (35, o_i 1 1), (36, o_iload 1 1), (37, o_i 0 1), (38, o_call (xRun tb_P_told 3) 3 0 0), (41, o_iret), (42, o_iinc 1 1), (45, o_goto 2), (48, o_i 0 1), (49, o_iret)]
abbrev y_P_libraryClass : MethodName := ⟨"NameMover$Problems", "libraryClass", "(LNameMover$Store;)I"⟩
abbrev rm_P_libraryClass : Room := { frames := 1, cells := 0, slots := 0, locals := 22 }
abbrev ws_P_libraryClass : List Cond := Cond.code y_P_libraryClass prog_7_method_4_code 2 (some .int) :: xtt
set_option maxRecDepth 100000 in
theorem v_P_libraryClass : ∀ q ∈ tb_P_libraryClass, xSd (0, 0) x0 xCl "NameMover$Problems" ws_P_libraryClass prog_7_method_4_code 2 (some .int) rm_P_libraryClass q :=
  xval (s_iconst (z := 0) (by decide +kernel) (by decide)) (
  xval (s_istore_n (f := 1) (by decide +kernel) rfl (by decide)) (
  xval (s_iload_n (f := 1) (by decide +kernel) rfl) (
  xval (s_aload_n (f := 0) (by decide +kernel) rfl) (
  xval (s_getf (i := 25) (by decide +kernel) rfl tin_S (by decide) (tc tw_63)) (
  xval (s_icge (z := 41) (by decide +kernel) (by decide)) (
  xval (s_aload_n (f := 0) (by decide +kernel) rfl) (
  xval (s_getf (i := 31) (by decide +kernel) rfl tin_S (by decide) (tc tw_44)) (
  xval (s_iload_n (f := 1) (by decide +kernel) rfl) (
  xval (s_baload (by decide +kernel)) (
  xval (s_ifeq (z := 26) (by decide +kernel) (by decide)) (
  xval (s_aload_n (f := 0) (by decide +kernel) rfl) (
  xval (s_getf (i := 35) (by decide +kernel) rfl tin_S (by decide) (tc tw_38)) (
  xval (s_iload_n (f := 1) (by decide +kernel) rfl) (
  xval (s_laload (by decide +kernel)) (
  xval (s_aload_n (f := 0) (by decide +kernel) rfl) (
  xval (s_getf (i := 39) (by decide +kernel) rfl tin_S (by decide) (tc tw_35)) (
  xval (s_iload_n (f := 1) (by decide +kernel) rfl) (
  xval (s_laload (by decide +kernel)) (
  xval (s_lcmp (by decide +kernel)) (
  xval (s_ifeq (z := 10) (by decide +kernel) (by decide)) (
  xval (s_iconst (z := 1) (by decide +kernel) (by decide)) (
  xval (s_iload_n (f := 1) (by decide +kernel) rfl) (
  xval (s_iconst (z := 0) (by decide +kernel) (by decide)) (
  xval (s_callS (i := 42) c_P_told (by decide +kernel) rfl (xtt_good tw_181) (tc tw_179) (tc tw_180) (tc tw_15) ⟨by decide, by decide, by decide +kernel⟩ ⟨by decide, by decide, rfl, rfl, by decide, by decide⟩ x0_e) (
  xval (s_iret (by decide +kernel)) (
  xval (s_iinc (z := 1) (by decide +kernel) (by decide) (by decide)) (
  xval (s_goto (z := (-43)) (by decide +kernel) (by decide)) (
  xval (s_iconst (z := 0) (by decide +kernel) (by decide)) (
  xval (s_iret (by decide +kernel)) (
  xval_nil))))))))))))))))))))))))))))))
theorem c_P_libraryClass : xMet xCl y_P_libraryClass ws_P_libraryClass rm_P_libraryClass (xRun tb_P_libraryClass 2) := xMet.of (by decide) rfl v_P_libraryClass
end
section
def tb_P_libraryMember : xT := [(0, o_i 0 1), (1, o_istore 1 1), (2, o_iload 1 1), (3, o_aload 0 1), (4, o_callV (xRun tb_S_numbersEnd 1) 1 0 0 0), (7, o_ic (fun a b => b ≤ a) 59), (10, o_aload 0 1), (11, o_iload 1 1), (12, o_callV (xRun tb_S_isMemberNumber 2) 1 1 0 0), (15, o_if (fun a => a = 0) 53), (18, o_aload 0 1), (19, o_getf 1 3), (22, o_iload 1 1), (23, o_call (xRun tb_S_classOf 1) 1 0 0), (26, o_baload), (27, o_if (fun a => a = 0) 53), (30, o_aload 0 1), (31, o_getf 1 7), (34, o_iload 1 1), (35, o_laload), (36, o_aload 0 1), (37, o_getf 1 6), (40, o_iload 1 1), (41, o_laload), (42, o_lcmp), (43, o_if (fun a => a = 0) 53), (46, o_i 2 1), (47, o_iload 1 1), (48, o_i 0 1), (49, o_call (xRun tb_P_told 3) 3 0 0), (52, o_iret), (53, o_iinc 1 1), (56, o_goto 2), (59, o_i 0 1), (60, o_iret)]
abbrev y_P_libraryMember : MethodName := ⟨"NameMover$Problems", "libraryMember", "(LNameMover$Store;)I"⟩
abbrev rm_P_libraryMember : Room := { frames := 3, cells := 0, slots := 0, locals := 64 }
abbrev ws_P_libraryMember : List Cond := Cond.code y_P_libraryMember prog_7_method_5_code 2 (some .int) :: xtt
set_option maxRecDepth 100000 in
theorem v_P_libraryMember : ∀ q ∈ tb_P_libraryMember, xSd (0, 0) x0 xCl "NameMover$Problems" ws_P_libraryMember prog_7_method_5_code 2 (some .int) rm_P_libraryMember q :=
  xval (s_iconst (z := 0) (by decide +kernel) (by decide)) (
  xval (s_istore_n (f := 1) (by decide +kernel) rfl (by decide)) (
  xval (s_iload_n (f := 1) (by decide +kernel) rfl) (
  xval (s_aload_n (f := 0) (by decide +kernel) rfl) (
  xval (s_callV (i := 46) c_S_numbersEnd (by decide +kernel) rfl (xtt_good tw_188) rfl (tc tw_185) (tc tw_186) (tc tw_187) (tc tw_2) ⟨by decide, by decide, by decide +kernel⟩ ⟨by decide, by decide, rfl, rfl, by decide, by decide⟩ x0_e) (
  xval (s_icge (z := 52) (by decide +kernel) (by decide)) (
  xval (s_aload_n (f := 0) (by decide +kernel) rfl) (
  xval (s_iload_n (f := 1) (by decide +kernel) rfl) (
  xval (s_callV (i := 50) c_S_isMemberNumber (by decide +kernel) rfl (xtt_good tw_192) rfl (tc tw_189) (tc tw_190) (tc tw_191) (tc tw_2) ⟨by decide, by decide, by decide +kernel⟩ ⟨by decide, by decide, rfl, rfl, by decide, by decide⟩ x0_e) (
  xval (s_ifeq (z := 38) (by decide +kernel) (by decide)) (
  xval (s_aload_n (f := 0) (by decide +kernel) rfl) (
  xval (s_getf (i := 31) (by decide +kernel) rfl tin_S (by decide) (tc tw_44)) (
  xval (s_iload_n (f := 1) (by decide +kernel) rfl) (
  xval (s_callS (i := 54) c_S_classOf (by decide +kernel) rfl (xtt_good tw_195) (tc tw_204) (tc tw_194) (tc tw_2) ⟨by decide, by decide, by decide +kernel⟩ ⟨by decide, by decide, rfl, rfl, by decide, by decide⟩ x0_e) (
  xval (s_baload (by decide +kernel)) (
  xval (s_ifeq (z := 26) (by decide +kernel) (by decide)) (
  xval (s_aload_n (f := 0) (by decide +kernel) rfl) (
  xval (s_getf (i := 58) (by decide +kernel) rfl tin_S (by decide) (tc tw_53)) (
  xval (s_iload_n (f := 1) (by decide +kernel) rfl) (
  xval (s_laload (by decide +kernel)) (
  xval (s_aload_n (f := 0) (by decide +kernel) rfl) (
  xval (s_getf (i := 61) (by decide +kernel) rfl tin_S (by decide) (tc tw_50)) (
  xval (s_iload_n (f := 1) (by decide +kernel) rfl) (
  xval (s_laload (by decide +kernel)) (
  xval (s_lcmp (by decide +kernel)) (
  xval (s_ifeq (z := 10) (by decide +kernel) (by decide)) (
  xval (s_iconst (z := 2) (by decide +kernel) (by decide)) (
  xval (s_iload_n (f := 1) (by decide +kernel) rfl) (
  xval (s_iconst (z := 0) (by decide +kernel) (by decide)) (
  xval (s_callS (i := 42) c_P_told (by decide +kernel) rfl (xtt_good tw_181) (tc tw_179) (tc tw_180) (tc tw_15) ⟨by decide, by decide, by decide +kernel⟩ ⟨by decide, by decide, rfl, rfl, by decide, by decide⟩ x0_e) (
  xval (s_iret (by decide +kernel)) (
  xval (s_iinc (z := 1) (by decide +kernel) (by decide) (by decide)) (
  xval (s_goto (z := (-54)) (by decide +kernel) (by decide)) (
  xval (s_iconst (z := 0) (by decide +kernel) (by decide)) (
  xval (s_iret (by decide +kernel)) (
  xval_nil)))))))))))))))))))))))))))))))))))
theorem c_P_libraryMember : xMet xCl y_P_libraryMember ws_P_libraryMember rm_P_libraryMember (xRun tb_P_libraryMember 2) := xMet.of (by decide) rfl v_P_libraryMember
def tb_P_sameClassName : xT := [(0, o_i 0 1), (1, o_istore 1 1), (2, o_iload 1 1), (3, o_aload 0 1), (4, o_getf 1 10), (7, o_ic (fun a b => b ≤ a) 57), (10, o_iload 1 1), (11, o_i 1 1), (12, o_ii (fun a b => a + b)), (13, o_istore 2 1), (14, o_iload 2 1), (15, o_aload 0 1), (16, o_getf 1 10), (19, o_ic (fun a b => b ≤ a) 51), (22, o_aload 0 1), (23, o_getf 1 1), (26, o_iload 1 1), (27, o_laload), (28, o_aload 0 1), (29, o_getf 1 1), (32, o_iload 2 1), (33, o_laload), (34, o_lcmp), (35, o_ifn (fun a => a = 0) 45), (38, o_i 3 1), (39, o_iload 1 1), (40, o_iload 2 1), (41, o_call (xRun tb_P_told 3) 3 0 0), (44, o_iret), (45, o_iinc 2 1), (48, o_goto 14), (51, o_iinc 1 1), (54, o_goto 2), (57, o_i 0 1), (58, o_iret)]
abbrev y_P_sameClassName : MethodName := ⟨"NameMover$Problems", "sameClassName", "(LNameMover$Store;)I"⟩
abbrev rm_P_sameClassName : Room := { frames := 1, cells := 0, slots := 0, locals := 22 }
abbrev ws_P_sameClassName : List Cond := Cond.code y_P_sameClassName prog_7_method_6_code 3 (some .int) :: xtt
set_option maxRecDepth 100000 in
theorem v_P_sameClassName : ∀ q ∈ tb_P_sameClassName, xSd (0, 0) x0 xCl "NameMover$Problems" ws_P_sameClassName prog_7_method_6_code 3 (some .int) rm_P_sameClassName q :=
  xval (s_iconst (z := 0) (by decide +kernel) (by decide)) (
  xval (s_istore_n (f := 1) (by decide +kernel) rfl (by decide)) (
  xval (s_iload_n (f := 1) (by decide +kernel) rfl) (
  xval (s_aload_n (f := 0) (by decide +kernel) rfl) (
  xval (s_getf (i := 25) (by decide +kernel) rfl tin_S (by decide) (tc tw_63)) (
  xval (s_icge (z := 50) (by decide +kernel) (by decide)) (
  xval (s_iload_n (f := 1) (by decide +kernel) rfl) (
  xval (s_iconst (z := 1) (by decide +kernel) (by decide)) (
  xval (s_iadd (by decide +kernel)) (
  xval (s_istore_n (f := 2) (by decide +kernel) rfl (by decide)) (
  xval (s_iload_n (f := 2) (by decide +kernel) rfl) (
  xval (s_aload_n (f := 0) (by decide +kernel) rfl) (
  xval (s_getf (i := 25) (by decide +kernel) rfl tin_S (by decide) (tc tw_63)) (
  xval (s_icge (z := 32) (by decide +kernel) (by decide)) (
  xval (s_aload_n (f := 0) (by decide +kernel) rfl) (
  xval (s_getf (i := 35) (by decide +kernel) rfl tin_S (by decide) (tc tw_38)) (
  xval (s_iload_n (f := 1) (by decide +kernel) rfl) (
  xval (s_laload (by decide +kernel)) (
  xval (s_aload_n (f := 0) (by decide +kernel) rfl) (
  xval (s_getf (i := 35) (by decide +kernel) rfl tin_S (by decide) (tc tw_38)) (
  xval (s_iload_n (f := 2) (by decide +kernel) rfl) (
  xval (s_laload (by decide +kernel)) (
  xval (s_lcmp (by decide +kernel)) (
  xval (s_ifne (z := 10) (by decide +kernel) (by decide)) (
  xval (s_iconst (z := 3) (by decide +kernel) (by decide)) (
  xval (s_iload_n (f := 1) (by decide +kernel) rfl) (
  xval (s_iload_n (f := 2) (by decide +kernel) rfl) (
  xval (s_callS (i := 42) c_P_told (by decide +kernel) rfl (xtt_good tw_181) (tc tw_179) (tc tw_180) (tc tw_15) ⟨by decide, by decide, by decide +kernel⟩ ⟨by decide, by decide, rfl, rfl, by decide, by decide⟩ x0_e) (
  xval (s_iret (by decide +kernel)) (
  xval (s_iinc (z := 1) (by decide +kernel) (by decide) (by decide)) (
  xval (s_goto (z := (-34)) (by decide +kernel) (by decide)) (
  xval (s_iinc (z := 1) (by decide +kernel) (by decide) (by decide)) (
  xval (s_goto (z := (-52)) (by decide +kernel) (by decide)) (
  xval (s_iconst (z := 0) (by decide +kernel) (by decide)) (
  xval (s_iret (by decide +kernel)) (
  xval_nil)))))))))))))))))))))))))))))))))))
theorem c_P_sameClassName : xMet xCl y_P_sameClassName ws_P_sameClassName rm_P_sameClassName (xRun tb_P_sameClassName 3) := xMet.of (by decide) rfl v_P_sameClassName
def tb_P_inOnePackage : xT := [(0, o_lload 0 1), (1, o_call (xRun tb_T_packageOf 3) 1 0 0), (4, o_lload 2 1), (5, o_call (xRun tb_T_packageOf 3) 1 0 0), (8, o_lcmp), (9, o_ifn (fun a => a = 0) 16), (12, o_i 1 1), (13, o_goto 17), (16, o_i 0 1), (17, o_zret)]
abbrev y_P_inOnePackage : MethodName := ⟨"NameMover$Problems", "inOnePackage", "(JJ)Z"⟩
abbrev rm_P_inOnePackage : Room := { frames := 3, cells := 0, slots := 0, locals := 66 }
abbrev ws_P_inOnePackage : List Cond := Cond.code y_P_inOnePackage prog_7_method_8_code 4 (some .boolean) :: xtt
set_option maxRecDepth 100000 in
theorem v_P_inOnePackage : ∀ q ∈ tb_P_inOnePackage, xSd (0, 0) x0 xCl "NameMover$Problems" ws_P_inOnePackage prog_7_method_8_code 4 (some .boolean) rm_P_inOnePackage q :=
  xval (s_lload_n (f := 0) (by decide +kernel) rfl) (
  xval (s_callS (i := 68) c_T_packageOf (by decide +kernel) rfl (xtt_good tw_216) (tc tw_214) (tc tw_215) (tc tw_7) ⟨by decide, by decide, by decide +kernel⟩ ⟨by decide, by decide, rfl, rfl, by decide, by decide⟩ x0_e) (
  xval (s_lload_n (f := 2) (by decide +kernel) rfl) (
  xval (s_callS (i := 68) c_T_packageOf (by decide +kernel) rfl (xtt_good tw_216) (tc tw_214) (tc tw_215) (tc tw_7) ⟨by decide, by decide, by decide +kernel⟩ ⟨by decide, by decide, rfl, rfl, by decide, by decide⟩ x0_e) (
  xval (s_lcmp (by decide +kernel)) (
  xval (s_ifne (z := 7) (by decide +kernel) (by decide)) (
  xval (s_iconst (z := 1) (by decide +kernel) (by decide)) (
  xval (s_goto (z := 4) (by decide +kernel) (by decide)) (
  xval (s_iconst (z := 0) (by decide +kernel) (by decide)) (
  xval (s_zret (by decide +kernel)) (
  xval_nil))))))))))
theorem c_P_inOnePackage : xMet xCl y_P_inOnePackage ws_P_inOnePackage rm_P_inOnePackage (xRun tb_P_inOnePackage 4) := xMet.of (by decide) rfl v_P_inOnePackage
def tb_P_otherPackages : xT := [(0, o_i 0 1), (1, o_istore 1 1), (2, o_iload 1 1), (3, o_aload 0 1), (4, o_getf 1 10), (7, o_ic (fun a b => b ≤ a) 74), (10, o_iload 1 1), (11, o_i 1 1), (12, o_ii (fun a b => a + b)), (13, o_istore 2 1), (14, o_iload 2 1), (15, o_aload 0 1), (16, o_getf 1 10), (19, o_ic (fun a b => b ≤ a) 68), (22, o_aload 0 1), (23, o_getf 1 0), (26, o_iload 1 1), (27, o_laload), (28, o_aload 0 1), (29, o_getf 1 0), (32, o_iload 2 1), (33, o_laload), (34, o_call (xRun tb_P_inOnePackage 4) 2 0 0), (37, o_aload 0 1), (38, o_getf 1 1), (41, o_iload 1 1), (42, o_laload), (43, o_aload 0 1), (44, o_getf 1 1), (47, o_iload 2 1), (48, o_laload), (49, o_call (xRun tb_P_inOnePackage 4) 2 0 0), (52, o_ic (fun a b => a = b) 62), (55, o_i 4 1), (56, o_iload 1 1), (57, o_iload 2 1), (58, o_call (xRun tb_P_told 3) 3 0 0), (61, o_iret), (62, o_iinc 2 1), (65, o_goto 14), (68, o_iinc 1 1), (71, o_goto 2), (74, o_i 0 1), (75, o_iret)]
abbrev y_P_otherPackages : MethodName := ⟨"NameMover$Problems", "otherPackages", "(LNameMover$Store;)I"⟩
abbrev rm_P_otherPackages : Room := { frames := 4, cells := 0, slots := 0, locals := 89 }
abbrev ws_P_otherPackages : List Cond := Cond.code y_P_otherPackages prog_7_method_7_code 3 (some .int) :: xtt
set_option maxRecDepth 100000 in
theorem v_P_otherPackages : ∀ q ∈ tb_P_otherPackages, xSd (0, 0) x0 xCl "NameMover$Problems" ws_P_otherPackages prog_7_method_7_code 3 (some .int) rm_P_otherPackages q :=
  xval (s_iconst (z := 0) (by decide +kernel) (by decide)) (
  xval (s_istore_n (f := 1) (by decide +kernel) rfl (by decide)) (
  xval (s_iload_n (f := 1) (by decide +kernel) rfl) (
  xval (s_aload_n (f := 0) (by decide +kernel) rfl) (
  xval (s_getf (i := 25) (by decide +kernel) rfl tin_S (by decide) (tc tw_63)) (
  xval (s_icge (z := 67) (by decide +kernel) (by decide)) (
  xval (s_iload_n (f := 1) (by decide +kernel) rfl) (
  xval (s_iconst (z := 1) (by decide +kernel) (by decide)) (
  xval (s_iadd (by decide +kernel)) (
  xval (s_istore_n (f := 2) (by decide +kernel) rfl (by decide)) (
  xval (s_iload_n (f := 2) (by decide +kernel) rfl) (
  xval (s_aload_n (f := 0) (by decide +kernel) rfl) (
  xval (s_getf (i := 25) (by decide +kernel) rfl tin_S (by decide) (tc tw_63)) (
  xval (s_icge (z := 49) (by decide +kernel) (by decide)) (
  xval (s_aload_n (f := 0) (by decide +kernel) rfl) (
  xval (s_getf (i := 39) (by decide +kernel) rfl tin_S (by decide) (tc tw_35)) (
  xval (s_iload_n (f := 1) (by decide +kernel) rfl) (
  xval (s_laload (by decide +kernel)) (
  xval (s_aload_n (f := 0) (by decide +kernel) rfl) (
  xval (s_getf (i := 39) (by decide +kernel) rfl tin_S (by decide) (tc tw_35)) (
  xval (s_iload_n (f := 2) (by decide +kernel) rfl) (
  xval (s_laload (by decide +kernel)) (
  xval (s_callS (i := 64) c_P_inOnePackage (by decide +kernel) rfl (xtt_good tw_213) (tc tw_211) (tc tw_212) (tc tw_15) ⟨by decide, by decide, by decide +kernel⟩ ⟨by decide, by decide, rfl, rfl, by decide, by decide⟩ x0_e) (
  xval (s_aload_n (f := 0) (by decide +kernel) rfl) (
  xval (s_getf (i := 35) (by decide +kernel) rfl tin_S (by decide) (tc tw_38)) (
  xval (s_iload_n (f := 1) (by decide +kernel) rfl) (
  xval (s_laload (by decide +kernel)) (
  xval (s_aload_n (f := 0) (by decide +kernel) rfl) (
  xval (s_getf (i := 35) (by decide +kernel) rfl tin_S (by decide) (tc tw_38)) (
  xval (s_iload_n (f := 2) (by decide +kernel) rfl) (
  xval (s_laload (by decide +kernel)) (
  xval (s_callS (i := 64) c_P_inOnePackage (by decide +kernel) rfl (xtt_good tw_213) (tc tw_211) (tc tw_212) (tc tw_15) ⟨by decide, by decide, by decide +kernel⟩ ⟨by decide, by decide, rfl, rfl, by decide, by decide⟩ x0_e) (
  xval (s_iceq (z := 10) (by decide +kernel) (by decide)) (
  xval (s_iconst (z := 4) (by decide +kernel) (by decide)) (
  xval (s_iload_n (f := 1) (by decide +kernel) rfl) (
  xval (s_iload_n (f := 2) (by decide +kernel) rfl) (
  xval (s_callS (i := 42) c_P_told (by decide +kernel) rfl (xtt_good tw_181) (tc tw_179) (tc tw_180) (tc tw_15) ⟨by decide, by decide, by decide +kernel⟩ ⟨by decide, by decide, rfl, rfl, by decide, by decide⟩ x0_e) (
  xval (s_iret (by decide +kernel)) (
  xval (s_iinc (z := 1) (by decide +kernel) (by decide) (by decide)) (
  xval (s_goto (z := (-51)) (by decide +kernel) (by decide)) (
  xval (s_iinc (z := 1) (by decide +kernel) (by decide) (by decide)) (
  xval (s_goto (z := (-69)) (by decide +kernel) (by decide)) (
  xval (s_iconst (z := 0) (by decide +kernel) (by decide)) (
  xval (s_iret (by decide +kernel)) (
  xval_nil))))))))))))))))))))))))))))))))))))))))))))
theorem c_P_otherPackages : xMet xCl y_P_otherPackages ws_P_otherPackages rm_P_otherPackages (xRun tb_P_otherPackages 3) := xMet.of (by decide) rfl v_P_otherPackages
def tb_P_becomeOne : xT := [(0, o_aload 0 1), (1, o_iload 1 1), (2, o_call (xRun tb_S_classOf 1) 1 0 0), (5, o_iload 2 1), (6, o_call (xRun tb_S_classOf 1) 1 0 0), (9, o_callV (xRun tb_S_isSameOrAncestor 3) 1 2 0 0), (12, o_if (fun a => a = 0) 67), (15, o_aload 0 1), (16, o_getf 1 8), (19, o_iload 1 1), (20, o_laload), (21, o_aload 0 1), (22, o_getf 1 8), (25, o_iload 2 1), (26, o_laload), (27, o_lcmp), (28, o_ifn (fun a => a = 0) 67), (31, o_aload 0 1), (32, o_getf 1 7), (35, o_iload 1 1), (36, o_laload), (37, o_aload 0 1), (38, o_getf 1 7), (41, o_iload 2 1), (42, o_laload), (43, o_lcmp), (44, o_ifn (fun a => a = 0) 67), (47, o_aload 0 1), (48, o_getf 1 6), (51, o_iload 1 1), (52, o_laload), (53, o_aload 0 1), (54, o_getf 1 6), (57, o_iload 2 1), (58, o_laload), (59, o_lcmp), (60, o_if (fun a => a = 0) 67), (63, o_i 1 1), (64, o_goto 68), (67, o_i 0 1), (68, o_zret)]
abbrev y_P_becomeOne : MethodName := ⟨"NameMover$Problems", "becomeOne", "(LNameMover$Store;II)Z"⟩
abbrev rm_P_becomeOne : Room := { frames := 1, cells := 0, slots := 0, locals := 22 }
abbrev ws_P_becomeOne : List Cond := Cond.code y_P_becomeOne prog_7_method_11_code 3 (some .boolean) :: xtt
set_option maxRecDepth 100000 in
theorem v_P_becomeOne : ∀ q ∈ tb_P_becomeOne, xSd (0, 0) x0 xCl "NameMover$Problems" ws_P_becomeOne prog_7_method_11_code 3 (some .boolean) rm_P_becomeOne q :=
  xval (s_aload_n (f := 0) (by decide +kernel) rfl) (
  xval (s_iload_n (f := 1) (by decide +kernel) rfl) (
  xval (s_callS (i := 54) c_S_classOf (by decide +kernel) rfl (xtt_good tw_195) (tc tw_204) (tc tw_194) (tc tw_2) ⟨by decide, by decide, by decide +kernel⟩ ⟨by decide, by decide, rfl, rfl, by decide, by decide⟩ x0_e) (
  xval (s_iload_n (f := 2) (by decide +kernel) rfl) (
  xval (s_callS (i := 54) c_S_classOf (by decide +kernel) rfl (xtt_good tw_195) (tc tw_204) (tc tw_194) (tc tw_2) ⟨by decide, by decide, by decide +kernel⟩ ⟨by decide, by decide, rfl, rfl, by decide, by decide⟩ x0_e) (
  xval (s_callV (i := 82) c_S_isSameOrAncestor (by decide +kernel) rfl (xtt_good tw_235) rfl (tc tw_232) (tc tw_233) (tc tw_234) (tc tw_2) ⟨by decide, by decide, by decide +kernel⟩ ⟨by decide, by decide, rfl, rfl, by decide, by decide⟩ x0_e) (
  xval (s_ifeq (z := 55) (by decide +kernel) (by decide)) (
  xval (s_aload_n (f := 0) (by decide +kernel) rfl) (
  xval (s_getf (i := 86) (by decide +kernel) rfl tin_S (by decide) (tc tw_57)) (
  xval (s_iload_n (f := 1) (by decide +kernel) rfl) (
  xval (s_laload (by decide +kernel)) (
  xval (s_aload_n (f := 0) (by decide +kernel) rfl) (
  xval (s_getf (i := 86) (by decide +kernel) rfl tin_S (by decide) (tc tw_57)) (
  xval (s_iload_n (f := 2) (by decide +kernel) rfl) (
  xval (s_laload (by decide +kernel)) (
  xval (s_lcmp (by decide +kernel)) (
  xval (s_ifne (z := 39) (by decide +kernel) (by decide)) (
  xval (s_aload_n (f := 0) (by decide +kernel) rfl) (
  xval (s_getf (i := 58) (by decide +kernel) rfl tin_S (by decide) (tc tw_53)) (
  xval (s_iload_n (f := 1) (by decide +kernel) rfl) (
  xval (s_laload (by decide +kernel)) (
  xval (s_aload_n (f := 0) (by decide +kernel) rfl) (
  xval (s_getf (i := 58) (by decide +kernel) rfl tin_S (by decide) (tc tw_53)) (
  xval (s_iload_n (f := 2) (by decide +kernel) rfl) (
  xval (s_laload (by decide +kernel)) (
  xval (s_lcmp (by decide +kernel)) (
  xval (s_ifne (z := 23) (by decide +kernel) (by decide)) (
  xval (s_aload_n (f := 0) (by decide +kernel) rfl) (
  xval (s_getf (i := 61) (by decide +kernel) rfl tin_S (by decide) (tc tw_50)) (
  xval (s_iload_n (f := 1) (by decide +kernel) rfl) (
  xval (s_laload (by decide +kernel)) (
  xval (s_aload_n (f := 0) (by decide +kernel) rfl) (
  xval (s_getf (i := 61) (by decide +kernel) rfl tin_S (by decide) (tc tw_50)) (
  xval (s_iload_n (f := 2) (by decide +kernel) rfl) (
  xval (s_laload (by decide +kernel)) (
  xval (s_lcmp (by decide +kernel)) (
  xval (s_ifeq (z := 7) (by decide +kernel) (by decide)) (
  xval (s_iconst (z := 1) (by decide +kernel) (by decide)) (
  xval (s_goto (z := 4) (by decide +kernel) (by decide)) (
  xval (s_iconst (z := 0) (by decide +kernel) (by decide)) (
  xval (s_zret (by decide +kernel)) (
  xval_nil)))))))))))))))))))))))))))))))))))))))))
theorem c_P_becomeOne : xMet xCl y_P_becomeOne ws_P_becomeOne rm_P_becomeOne (xRun tb_P_becomeOne 3) := xMet.of (by decide) rfl v_P_becomeOne
def tb_P_firstThatBecomes : xT := [(0, o_iload 1 1), (1, o_i 1 1), (2, o_ii (fun a b => a + b)), (3, o_istore 2 1), (4, o_iload 2 1), (5, o_aload 0 1), (6, o_callV (xRun tb_S_numbersEnd 1) 1 0 0 0), (9, o_ic (fun a b => b ≤ a) 37), (12, o_aload 0 1), (13, o_iload 2 1), (14, o_callV (xRun tb_S_isMemberNumber 2) 1 1 0 0), (17, o_if (fun a => a = 0) 31), (20, o_aload 0 1), (21, o_iload 1 1), (22, o_iload 2 1), (23, o_call (xRun tb_P_becomeOne 3) 3 0 0), (26, o_if (fun a => a = 0) 31), (29, o_iload 2 1), (30, o_iret), (31, o_iinc 2 1), (34, o_goto 4), (37, o_i (-1) 1), (38, o_iret)]
abbrev y_P_firstThatBecomes : MethodName := ⟨"NameMover$Problems", "firstThatBecomes", "(LNameMover$Store;I)I"⟩
abbrev rm_P_firstThatBecomes : Room := { frames := 3, cells := 0, slots := 0, locals := 64 }
abbrev ws_P_firstThatBecomes : List Cond := Cond.code y_P_firstThatBecomes prog_7_method_10_code 3 (some .int) :: xtt
set_option maxRecDepth 100000 in
theorem v_P_firstThatBecomes : ∀ q ∈ tb_P_firstThatBecomes, xSd (0, 0) x0 xCl "NameMover$Problems" ws_P_firstThatBecomes prog_7_method_10_code 3 (some .int) rm_P_firstThatBecomes q :=
  xval (s_iload_n (f := 1) (by decide +kernel) rfl) (
  xval (s_iconst (z := 1) (by decide +kernel) (by decide)) (
  xval (s_iadd (by decide +kernel)) (
  xval (s_istore_n (f := 2) (by decide +kernel) rfl (by decide)) (
  xval (s_iload_n (f := 2) (by decide +kernel) rfl) (
  xval (s_aload_n (f := 0) (by decide +kernel) rfl) (
  xval (s_callV (i := 46) c_S_numbersEnd (by decide +kernel) rfl (xtt_good tw_188) rfl (tc tw_185) (tc tw_186) (tc tw_187) (tc tw_2) ⟨by decide, by decide, by decide +kernel⟩ ⟨by decide, by decide, rfl, rfl, by decide, by decide⟩ x0_e) (
  xval (s_icge (z := 28) (by decide +kernel) (by decide)) (
  xval (s_aload_n (f := 0) (by decide +kernel) rfl) (
  xval (s_iload_n (f := 2) (by decide +kernel) rfl) (
  xval (s_callV (i := 50) c_S_isMemberNumber (by decide +kernel) rfl (xtt_good tw_192) rfl (tc tw_189) (tc tw_190) (tc tw_191) (tc tw_2) ⟨by decide, by decide, by decide +kernel⟩ ⟨by decide, by decide, rfl, rfl, by decide, by decide⟩ x0_e) (
  xval (s_ifeq (z := 14) (by decide +kernel) (by decide)) (
  xval (s_aload_n (f := 0) (by decide +kernel) rfl) (
  xval (s_iload_n (f := 1) (by decide +kernel) rfl) (
  xval (s_iload_n (f := 2) (by decide +kernel) rfl) (
  xval (s_callS (i := 78) c_P_becomeOne (by decide +kernel) rfl (xtt_good tw_231) (tc tw_229) (tc tw_230) (tc tw_15) ⟨by decide, by decide, by decide +kernel⟩ ⟨by decide, by decide, rfl, rfl, by decide, by decide⟩ x0_e) (
  xval (s_ifeq (z := 5) (by decide +kernel) (by decide)) (
  xval (s_iload_n (f := 2) (by decide +kernel) rfl) (
  xval (s_iret (by decide +kernel)) (
  xval (s_iinc (z := 1) (by decide +kernel) (by decide) (by decide)) (
  xval (s_goto (z := (-30)) (by decide +kernel) (by decide)) (
  xval (s_iconst (z := (-1)) (by decide +kernel) (by decide)) (
  xval (s_iret (by decide +kernel)) (
  xval_nil)))))))))))))))))))))))
theorem c_P_firstThatBecomes : xMet xCl y_P_firstThatBecomes ws_P_firstThatBecomes rm_P_firstThatBecomes (xRun tb_P_firstThatBecomes 3) := xMet.of (by decide) rfl v_P_firstThatBecomes
def tb_P_sameMemberName : xT := [(0, o_i 0 1), (1, o_istore 1 1), (2, o_iload 1 1), (3, o_aload 0 1), (4, o_callV (xRun tb_S_numbersEnd 1) 1 0 0 0), (7, o_ic (fun a b => b ≤ a) 46), (10, o_aload 0 1), (11, o_iload 1 1), (12, o_callV (xRun tb_S_isMemberNumber 2) 1 1 0 0), (15, o_if (fun a => a = 0) 26), (18, o_aload 0 1), (19, o_iload 1 1), (20, o_call (xRun tb_P_firstThatBecomes 3) 2 0 0), (23, o_goto 27), (26, o_i (-1) 1), (27, o_istore 2 1), (28, o_iload 2 1), (29, o_i (-1) 1), (30, o_ic (fun a b => a = b) 40), (33, o_i 5 1), (34, o_iload 1 1), (35, o_iload 2 1), (36, o_call (xRun tb_P_told 3) 3 0 0), (39, o_iret), (40, o_iinc 1 1), (43, o_goto 2), (46, o_i 0 1), (47, o_iret)]
abbrev y_P_sameMemberName : MethodName := ⟨"NameMover$Problems", "sameMemberName", "(LNameMover$Store;)I"⟩
abbrev rm_P_sameMemberName : Room := { frames := 4, cells := 0, slots := 0, locals := 86 }
abbrev ws_P_sameMemberName : List Cond := Cond.code y_P_sameMemberName prog_7_method_9_code 3 (some .int) :: xtt
set_option maxRecDepth 100000 in
theorem v_P_sameMemberName : ∀ q ∈ tb_P_sameMemberName, xSd (0, 0) x0 xCl "NameMover$Problems" ws_P_sameMemberName prog_7_method_9_code 3 (some .int) rm_P_sameMemberName q :=
  xval (s_iconst (z := 0) (by decide +kernel) (by decide)) (
  xval (s_istore_n (f := 1) (by decide +kernel) rfl (by decide)) (
  xval (s_iload_n (f := 1) (by decide +kernel) rfl) (
  xval (s_aload_n (f := 0) (by decide +kernel) rfl) (
  xval (s_callV (i := 46) c_S_numbersEnd (by decide +kernel) rfl (xtt_good tw_188) rfl (tc tw_185) (tc tw_186) (tc tw_187) (tc tw_2) ⟨by decide, by decide, by decide +kernel⟩ ⟨by decide, by decide, rfl, rfl, by decide, by decide⟩ x0_e) (
  xval (s_icge (z := 39) (by decide +kernel) (by decide)) (
  xval (s_aload_n (f := 0) (by decide +kernel) rfl) (
  xval (s_iload_n (f := 1) (by decide +kernel) rfl) (
  xval (s_callV (i := 50) c_S_isMemberNumber (by decide +kernel) rfl (xtt_good tw_192) rfl (tc tw_189) (tc tw_190) (tc tw_191) (tc tw_2) ⟨by decide, by decide, by decide +kernel⟩ ⟨by decide, by decide, rfl, rfl, by decide, by decide⟩ x0_e) (
  xval (s_ifeq (z := 11) (by decide +kernel) (by decide)) (
  xval (s_aload_n (f := 0) (by decide +kernel) rfl) (
  xval (s_iload_n (f := 1) (by decide +kernel) rfl) (
  xval (s_callS (i := 74) c_P_firstThatBecomes (by decide +kernel) rfl (xtt_good tw_228) (tc tw_226) (tc tw_227) (tc tw_15) ⟨by decide, by decide, by decide +kernel⟩ ⟨by decide, by decide, rfl, rfl, by decide, by decide⟩ x0_e) (
  xval (s_goto (z := 4) (by decide +kernel) (by decide)) (
  xval (s_iconst (z := (-1)) (by decide +kernel) (by decide)) (
  xval (s_istore_n (f := 2) (by decide +kernel) rfl (by decide)) (
  xval (s_iload_n (f := 2) (by decide +kernel) rfl) (
  xval (s_iconst (z := (-1)) (by decide +kernel) (by decide)) (
  xval (s_iceq (z := 10) (by decide +kernel) (by decide)) (
  xval (s_iconst (z := 5) (by decide +kernel) (by decide)) (
  xval (s_iload_n (f := 1) (by decide +kernel) rfl) (
  xval (s_iload_n (f := 2) (by decide +kernel) rfl) (
  xval (s_callS (i := 42) c_P_told (by decide +kernel) rfl (xtt_good tw_181) (tc tw_179) (tc tw_180) (tc tw_15) ⟨by decide, by decide, by decide +kernel⟩ ⟨by decide, by decide, rfl, rfl, by decide, by decide⟩ x0_e) (
  xval (s_iret (by decide +kernel)) (
  xval (s_iinc (z := 1) (by decide +kernel) (by decide) (by decide)) (
  xval (s_goto (z := (-41)) (by decide +kernel) (by decide)) (
  xval (s_iconst (z := 0) (by decide +kernel) (by decide)) (
  xval (s_iret (by decide +kernel)) (
  xval_nil))))))))))))))))))))))))))))
theorem c_P_sameMemberName : xMet xCl y_P_sameMemberName ws_P_sameMemberName rm_P_sameMemberName (xRun tb_P_sameMemberName 3) := xMet.of (by decide) rfl v_P_sameMemberName
def tb_P_least : xT := [(0, o_aload 0 1), (1, o_call (xRun tb_P_libraryClass 2) 1 0 0), (4, o_istore 1 1), (5, o_iload 1 1), (6, o_ifn (fun a => a = 0) 14), (9, o_aload 0 1), (10, o_call (xRun tb_P_libraryMember 2) 1 0 0), (13, o_istore 1 1), (14, o_iload 1 1), (15, o_ifn (fun a => a = 0) 23), (18, o_aload 0 1), (19, o_call (xRun tb_P_sameClassName 3) 1 0 0), (22, o_istore 1 1), (23, o_iload 1 1), (24, o_ifn (fun a => a = 0) 32), (27, o_aload 0 1), (28, o_call (xRun tb_P_otherPackages 3) 1 0 0), (31, o_istore 1 1), (32, o_iload 1 1), (33, o_ifn (fun a => a = 0) 41), (36, o_aload 0 1), (37, o_call (xRun tb_P_sameMemberName 3) 1 0 0), (40, o_istore 1 1), (41, o_iload 1 1), (42, o_iret)]
abbrev y_P_least : MethodName := ⟨"NameMover$Problems", "least", "(LNameMover$Store;)I"⟩
abbrev rm_P_least : Room := { frames := 5, cells := 0, slots := 0, locals := 111 }
abbrev ws_P_least : List Cond := Cond.code y_P_least prog_7_method_2_code 2 (some .int) :: xtt
set_option maxRecDepth 100000 in
theorem v_P_least : ∀ q ∈ tb_P_least, xSd (0, 0) x0 xCl "NameMover$Problems" ws_P_least prog_7_method_2_code 2 (some .int) rm_P_least q :=
  xval (s_aload_n (f := 0) (by decide +kernel) rfl) (
  xval (s_callS (i := 7) c_P_libraryClass (by decide +kernel) rfl (xtt_good tw_178) (tc tw_176) (tc tw_177) (tc tw_15) ⟨by decide, by decide, by decide +kernel⟩ ⟨by decide, by decide, rfl, rfl, by decide, by decide⟩ x0_e) (
  xval (s_istore_n (f := 1) (by decide +kernel) rfl (by decide)) (
  xval (s_iload_n (f := 1) (by decide +kernel) rfl) (
  xval (s_ifne (z := 8) (by decide +kernel) (by decide)) (
  xval (s_aload_n (f := 0) (by decide +kernel) rfl) (
  xval (s_callS (i := 13) c_P_libraryMember (by decide +kernel) rfl (xtt_good tw_184) (tc tw_182) (tc tw_183) (tc tw_15) ⟨by decide, by decide, by decide +kernel⟩ ⟨by decide, by decide, rfl, rfl, by decide, by decide⟩ x0_e) (
  xval (s_istore_n (f := 1) (by decide +kernel) rfl (by decide)) (
  xval (s_iload_n (f := 1) (by decide +kernel) rfl) (
  xval (s_ifne (z := 8) (by decide +kernel) (by decide)) (
  xval (s_aload_n (f := 0) (by decide +kernel) rfl) (
  xval (s_callS (i := 16) c_P_sameClassName (by decide +kernel) rfl (xtt_good tw_207) (tc tw_205) (tc tw_206) (tc tw_15) ⟨by decide, by decide, by decide +kernel⟩ ⟨by decide, by decide, rfl, rfl, by decide, by decide⟩ x0_e) (
  xval (s_istore_n (f := 1) (by decide +kernel) rfl (by decide)) (
  xval (s_iload_n (f := 1) (by decide +kernel) rfl) (
  xval (s_ifne (z := 8) (by decide +kernel) (by decide)) (
  xval (s_aload_n (f := 0) (by decide +kernel) rfl) (
  xval (s_callS (i := 19) c_P_otherPackages (by decide +kernel) rfl (xtt_good tw_210) (tc tw_208) (tc tw_209) (tc tw_15) ⟨by decide, by decide, by decide +kernel⟩ ⟨by decide, by decide, rfl, rfl, by decide, by decide⟩ x0_e) (
  xval (s_istore_n (f := 1) (by decide +kernel) rfl (by decide)) (
  xval (s_iload_n (f := 1) (by decide +kernel) rfl) (
  xval (s_ifne (z := 8) (by decide +kernel) (by decide)) (
  xval (s_aload_n (f := 0) (by decide +kernel) rfl) (
  xval (s_callS (i := 22) c_P_sameMemberName (by decide +kernel) rfl (xtt_good tw_225) (tc tw_223) (tc tw_224) (tc tw_15) ⟨by decide, by decide, by decide +kernel⟩ ⟨by decide, by decide, rfl, rfl, by decide, by decide⟩ x0_e) (
  xval (s_istore_n (f := 1) (by decide +kernel) rfl (by decide)) (
  xval (s_iload_n (f := 1) (by decide +kernel) rfl) (
  xval (s_iret (by decide +kernel)) (
  xval_nil)))))))))))))))))))))))))
theorem c_P_least : xMet xCl y_P_least ws_P_least rm_P_least (xRun tb_P_least 2) := xMet.of (by decide) rfl v_P_least
def tb_N_problem : xT := [(0, o_aload 0 1), (1, o_getf 0 0), (4, o_call (xRun tb_P_least 2) 1 0 0), (7, o_iret)]
abbrev y_N_problem : MethodName := ⟨"NameMover", "problem", "()I"⟩
abbrev rm_N_problem : Room := { frames := 6, cells := 0, slots := 0, locals := 132 }
abbrev ws_N_problem : List Cond := Cond.code y_N_problem prog_1_method_7_code 1 (some .int) :: xtt
set_option maxRecDepth 100000 in
theorem v_N_problem : ∀ q ∈ tb_N_problem, xSd (0, 0) x0 xCl "NameMover" ws_N_problem prog_1_method_7_code 1 (some .int) rm_N_problem q :=
  xval (s_aload_n (f := 0) (by decide +kernel) rfl) (
  xval (s_getf (i := 10) (by decide +kernel) rfl tin_N (by decide) (tc tw_150)) (
  xval (s_callS (i := 151) c_P_least (by decide +kernel) rfl (xtt_good tw_175) (tc tw_173) (tc tw_174) (tc tw_15) ⟨by decide, by decide, by decide +kernel⟩ ⟨by decide, by decide, rfl, rfl, by decide, by decide⟩ x0_e) (
  xval (s_iret (by decide +kernel)) (
  xval_nil))))
theorem c_N_problem : xMet xCl y_N_problem ws_N_problem rm_N_problem (xRun tb_N_problem 1) := xMet.of (by decide) rfl v_N_problem
def tb_S_takeNewNames : xT := [(0, o_aload 0 1), (1, o_getf 1 1), (4, o_i 0 1), (5, o_aload 0 1), (6, o_getf 1 0), (9, o_i 0 1), (10, o_i 8 2), (12, o_copyl), (15, o_aload 0 1), (16, o_getf 1 7), (19, o_i 0 1), (20, o_aload 0 1), (21, o_getf 1 6), (24, o_i 0 1), (25, o_i 64 2), (27, o_copyl), (30, o_vret)]
abbrev y_S_takeNewNames : MethodName := ⟨"NameMover$Store", "takeNewNames", "()V"⟩
abbrev rm_S_takeNewNames : Room := { frames := 1, cells := 0, slots := 0, locals := 40 }
abbrev ws_S_takeNewNames : List Cond := Cond.code y_S_takeNewNames prog_8_method_19_code 1 (none) :: xtt
set_option maxRecDepth 100000 in
theorem v_S_takeNewNames : ∀ q ∈ tb_S_takeNewNames, xSd (0, 0) x0 xCl "NameMover$Store" ws_S_takeNewNames prog_8_method_19_code 1 (none) rm_S_takeNewNames q :=
  xval (s_aload_n (f := 0) (by decide +kernel) rfl) (
  xval (s_getf (i := 13) (by decide +kernel) rfl tin_S (by decide) (tc tw_37)) (
  xval (s_iconst (z := 0) (by decide +kernel) (by decide)) (
  xval (s_aload_n (f := 0) (by decide +kernel) rfl) (
  xval (s_getf (i := 9) (by decide +kernel) rfl tin_S (by decide) (tc tw_33)) (
  xval (s_iconst (z := 0) (by decide +kernel) (by decide)) (
  xval (s_bipush (z := 8) (by decide +kernel) (by decide)) (
  xval (s_copyl (i := 79) (by decide +kernel) (tc tw_250) (tc tw_252) (tc tw_251) (tc tw_16) ⟨by decide, by decide +kernel⟩) (
  xval (s_aload_n (f := 0) (by decide +kernel) rfl) (
  xval (s_getf (i := 33) (by decide +kernel) rfl tin_S (by decide) (tc tw_52)) (
  xval (s_iconst (z := 0) (by decide +kernel) (by decide)) (
  xval (s_aload_n (f := 0) (by decide +kernel) rfl) (
  xval (s_getf (i := 30) (by decide +kernel) rfl tin_S (by decide) (tc tw_48)) (
  xval (s_iconst (z := 0) (by decide +kernel) (by decide)) (
  xval (s_bipush (z := 64) (by decide +kernel) (by decide)) (
  xval (s_copyl (i := 79) (by decide +kernel) (tc tw_250) (tc tw_252) (tc tw_251) (tc tw_16) ⟨by decide, by decide +kernel⟩) (
  xval (s_vret (by decide +kernel)) (
  xval_nil)))))))))))))))))
theorem c_S_takeNewNames : xMet xCl y_S_takeNewNames ws_S_takeNewNames rm_S_takeNewNames (xRun tb_S_takeNewNames 1) := xMet.of (by decide) rfl v_S_takeNewNames
def tb_N_apply : xT := [(0, o_aload 0 1), (1, o_getf 0 0), (4, o_call (xRun tb_P_least 2) 1 1 0), (7, o_if (fun a => a = 0) 20), (10, o_throw 2 1), (20, o_aload 0 1), (21, o_getf 0 0), (24, o_callV (xRun tb_S_changedNames 3) 1 0 1 0), (27, o_istore 1 1), (28, o_aload 0 1), (29, o_getf 0 0), (32, o_callV (xRun tb_S_takeNewNames 1) 1 0 1 0), (35, o_iload 1 1), (36, o_iret)]
abbrev y_N_apply : MethodName := ⟨"NameMover", "apply", "()I"⟩
abbrev rm_N_apply : Room := { frames := 6, cells := 1, slots := 6, locals := 132 }
abbrev ws_N_apply : List Cond := Cond.code y_N_apply prog_1_method_8_code 2 (some .int) :: xtt
set_option maxRecDepth 100000 in
theorem v_N_apply : ∀ q ∈ tb_N_apply, xSd (0, 0) x0 xCl "NameMover" ws_N_apply prog_1_method_8_code 2 (some .int) rm_N_apply q :=
  xval (s_aload_n (f := 0) (by decide +kernel) rfl) (
  xval (s_getf (i := 10) (by decide +kernel) rfl tin_N (by decide) (tc tw_150)) (
  xval (s_callS (i := 151) c_P_least (by decide +kernel) rfl (xtt_good tw_175) (tc tw_173) (tc tw_174) (tc tw_15) ⟨by decide, by decide, by decide +kernel⟩ ⟨by decide, by decide, rfl, rfl, by decide, by decide⟩ x0_e) (
  xval (s_ifeq (z := 13) (by decide +kernel) (by decide)) (
  xval (s_throw (i := 82) (ik := 157) (ic := 86) (j := 7) (bs := prog_14_method_2_code) (tx := "there is a problem") (by decide +kernel) (by decide +kernel) (by decide +kernel) (by decide +kernel) (by decide +kernel) (tc tw_378) (tc tw_379) (tc tw_13) (tc tw_532) (by decide +kernel) (by decide +kernel) (by decide +kernel) (by decide +kernel) (by decide +kernel) (tow_2 (tc tw_388)) ⟨by decide, by decide, by decide, by decide⟩ x0_e) (
  xval (s_aload_n (f := 0) (by decide +kernel) rfl) (
  xval (s_getf (i := 10) (by decide +kernel) rfl tin_N (by decide) (tc tw_150)) (
  xval (s_callV (i := 159) c_S_changedNames (by decide +kernel) rfl (xtt_good tw_243) rfl (tc tw_240) (tc tw_241) (tc tw_242) (tc tw_2) ⟨by decide, by decide, by decide +kernel⟩ ⟨by decide, by decide, rfl, rfl, by decide, by decide⟩ x0_e) (
  xval (s_istore_n (f := 1) (by decide +kernel) rfl (by decide)) (
  xval (s_aload_n (f := 0) (by decide +kernel) rfl) (
  xval (s_getf (i := 10) (by decide +kernel) rfl tin_N (by decide) (tc tw_150)) (
  xval (s_callV (i := 162) c_S_takeNewNames (by decide +kernel) rfl (xtt_good tw_536) rfl (tc tw_533) (tc tw_534) (tc tw_535) (tc tw_2) ⟨by decide, by decide, by decide +kernel⟩ ⟨by decide, by decide, rfl, rfl, by decide, by decide⟩ x0_e) (
  xval (s_iload_n (f := 1) (by decide +kernel) rfl) (
  xval (s_iret (by decide +kernel)) (
  xval_nil))))))))))))))
theorem c_N_apply : xMet xCl y_N_apply ws_N_apply rm_N_apply (xRun tb_N_apply 2) := xMet.of (by decide) rfl v_N_apply
def tb_S_dropNewNames : xT := [(0, o_aload 0 1), (1, o_getf 1 0), (4, o_i 0 1), (5, o_aload 0 1), (6, o_getf 1 1), (9, o_i 0 1), (10, o_i 8 2), (12, o_copyl), (15, o_aload 0 1), (16, o_getf 1 6), (19, o_i 0 1), (20, o_aload 0 1), (21, o_getf 1 7), (24, o_i 0 1), (25, o_i 64 2), (27, o_copyl), (30, o_vret)]
abbrev y_S_dropNewNames : MethodName := ⟨"NameMover$Store", "dropNewNames", "()V"⟩
abbrev rm_S_dropNewNames : Room := { frames := 1, cells := 0, slots := 0, locals := 40 }
abbrev ws_S_dropNewNames : List Cond := Cond.code y_S_dropNewNames prog_8_method_20_code 1 (none) :: xtt
set_option maxRecDepth 100000 in
theorem v_S_dropNewNames : ∀ q ∈ tb_S_dropNewNames, xSd (0, 0) x0 xCl "NameMover$Store" ws_S_dropNewNames prog_8_method_20_code 1 (none) rm_S_dropNewNames q :=
  xval (s_aload_n (f := 0) (by decide +kernel) rfl) (
  xval (s_getf (i := 9) (by decide +kernel) rfl tin_S (by decide) (tc tw_33)) (
  xval (s_iconst (z := 0) (by decide +kernel) (by decide)) (
  xval (s_aload_n (f := 0) (by decide +kernel) rfl) (
  xval (s_getf (i := 13) (by decide +kernel) rfl tin_S (by decide) (tc tw_37)) (
  xval (s_iconst (z := 0) (by decide +kernel) (by decide)) (
  xval (s_bipush (z := 8) (by decide +kernel) (by decide)) (
  xval (s_copyl (i := 79) (by decide +kernel) (tc tw_250) (tc tw_252) (tc tw_251) (tc tw_16) ⟨by decide, by decide +kernel⟩) (
  xval (s_aload_n (f := 0) (by decide +kernel) rfl) (
  xval (s_getf (i := 30) (by decide +kernel) rfl tin_S (by decide) (tc tw_48)) (
  xval (s_iconst (z := 0) (by decide +kernel) (by decide)) (
  xval (s_aload_n (f := 0) (by decide +kernel) rfl) (
  xval (s_getf (i := 33) (by decide +kernel) rfl tin_S (by decide) (tc tw_52)) (
  xval (s_iconst (z := 0) (by decide +kernel) (by decide)) (
  xval (s_bipush (z := 64) (by decide +kernel) (by decide)) (
  xval (s_copyl (i := 79) (by decide +kernel) (tc tw_250) (tc tw_252) (tc tw_251) (tc tw_16) ⟨by decide, by decide +kernel⟩) (
  xval (s_vret (by decide +kernel)) (
  xval_nil)))))))))))))))))
theorem c_S_dropNewNames : xMet xCl y_S_dropNewNames ws_S_dropNewNames rm_S_dropNewNames (xRun tb_S_dropNewNames 1) := xMet.of (by decide) rfl v_S_dropNewNames
def tb_N_cancel : xT := [(0, o_aload 0 1), (1, o_getf 0 0), (4, o_callV (xRun tb_S_changedNames 3) 1 0 0 0), (7, o_istore 1 1), (8, o_aload 0 1), (9, o_getf 0 0), (12, o_callV (xRun tb_S_dropNewNames 1) 1 0 0 0), (15, o_iload 1 1), (16, o_iret)]
abbrev y_N_cancel : MethodName := ⟨"NameMover", "cancel", "()I"⟩
abbrev rm_N_cancel : Room := { frames := 4, cells := 0, slots := 0, locals := 86 }
abbrev ws_N_cancel : List Cond := Cond.code y_N_cancel prog_1_method_9_code 2 (some .int) :: xtt
set_option maxRecDepth 100000 in
theorem v_N_cancel : ∀ q ∈ tb_N_cancel, xSd (0, 0) x0 xCl "NameMover" ws_N_cancel prog_1_method_9_code 2 (some .int) rm_N_cancel q :=
  xval (s_aload_n (f := 0) (by decide +kernel) rfl) (
  xval (s_getf (i := 10) (by decide +kernel) rfl tin_N (by decide) (tc tw_150)) (
  xval (s_callV (i := 159) c_S_changedNames (by decide +kernel) rfl (xtt_good tw_243) rfl (tc tw_240) (tc tw_241) (tc tw_242) (tc tw_2) ⟨by decide, by decide, by decide +kernel⟩ ⟨by decide, by decide, rfl, rfl, by decide, by decide⟩ x0_e) (
  xval (s_istore_n (f := 1) (by decide +kernel) rfl (by decide)) (
  xval (s_aload_n (f := 0) (by decide +kernel) rfl) (
  xval (s_getf (i := 10) (by decide +kernel) rfl tin_N (by decide) (tc tw_150)) (
  xval (s_callV (i := 165) c_S_dropNewNames (by decide +kernel) rfl (xtt_good tw_249) rfl (tc tw_246) (tc tw_247) (tc tw_248) (tc tw_2) ⟨by decide, by decide, by decide +kernel⟩ ⟨by decide, by decide, rfl, rfl, by decide, by decide⟩ x0_e) (
  xval (s_iload_n (f := 1) (by decide +kernel) rfl) (
  xval (s_iret (by decide +kernel)) (
  xval_nil)))))))))
theorem c_N_cancel : xMet xCl y_N_cancel ws_N_cancel rm_N_cancel (xRun tb_N_cancel 2) := xMet.of (by decide) rfl v_N_cancel
def tb_N_classes : xT := [(0, o_aload 0 1), (1, o_getf 0 0), (4, o_getf 1 10), (7, o_iret)]
abbrev y_N_classes : MethodName := ⟨"NameMover", "classes", "()I"⟩
abbrev rm_N_classes : Room := { frames := 0, cells := 0, slots := 0, locals := 0 }
abbrev ws_N_classes : List Cond := Cond.code y_N_classes prog_1_method_10_code 1 (some .int) :: xtt
set_option maxRecDepth 100000 in
theorem v_N_classes : ∀ q ∈ tb_N_classes, xSd (0, 0) x0 xCl "NameMover" ws_N_classes prog_1_method_10_code 1 (some .int) rm_N_classes q :=
  xval (s_aload_n (f := 0) (by decide +kernel) rfl) (
  xval (s_getf (i := 10) (by decide +kernel) rfl tin_N (by decide) (tc tw_150)) (
  xval (s_getf (i := 74) (by decide +kernel) rfl tin_S (by decide) (tc tw_62)) (
  xval (s_iret (by decide +kernel)) (
  xval_nil))))
theorem c_N_classes : xMet xCl y_N_classes ws_N_classes rm_N_classes (xRun tb_N_classes 1) := xMet.of (by decide) rfl v_N_classes
def tb_N_className : xT := [(0, o_aload 0 1), (1, o_iload 1 1), (2, o_callV (xRun tb_N_requireClass 2) 0 1 1 1), (5, o_iload 2 1), (6, o_if (fun a => a = 0) 21), (9, o_aload 0 1), (10, o_getf 0 0), (13, o_getf 1 1), (16, o_iload 1 1), (17, o_laload), (18, o_goto 30), (21, o_aload 0 1), (22, o_getf 0 0), (25, o_getf 1 0), (28, o_iload 1 1), (29, o_laload), (30, o_lret)]
abbrev y_N_className : MethodName := ⟨"NameMover", "className", "(IZ)J"⟩
abbrev rm_N_className : Room := { frames := 7, cells := 1, slots := 6, locals := 103 }
abbrev ws_N_className : List Cond := Cond.code y_N_className prog_1_method_11_code 3 (some .long) :: xtt
set_option maxRecDepth 100000 in
theorem v_N_className : ∀ q ∈ tb_N_className, xSd (0, 0) x0 xCl "NameMover" ws_N_className prog_1_method_11_code 3 (some .long) rm_N_className q :=
  xval (s_aload_n (f := 0) (by decide +kernel) rfl) (
  xval (s_iload_n (f := 1) (by decide +kernel) rfl) (
  xval (s_callV (i := 95) c_N_requireClass (by decide +kernel) rfl (xtt_good tw_412) rfl (tc tw_409) (tc tw_411) (tc ts_1) (tc tw_1) ⟨by decide, by decide, by decide +kernel⟩ ⟨by decide, by decide, rfl, rfl, by decide, by decide⟩ x0_e) (
  xval (s_iload_n (f := 2) (by decide +kernel) rfl) (
  xval (s_ifeq (z := 15) (by decide +kernel) (by decide)) (
  xval (s_aload_n (f := 0) (by decide +kernel) rfl) (
  xval (s_getf (i := 10) (by decide +kernel) rfl tin_N (by decide) (tc tw_150)) (
  xval (s_getf (i := 120) (by decide +kernel) rfl tin_S (by decide) (tc tw_39)) (
  xval (s_iload_n (f := 1) (by decide +kernel) rfl) (
  xval (s_laload (by decide +kernel)) (
  xval (s_goto (z := 12) (by decide +kernel) (by decide)) (
  xval (s_aload_n (f := 0) (by decide +kernel) rfl) (
  xval (s_getf (i := 10) (by decide +kernel) rfl tin_N (by decide) (tc tw_150)) (
  xval (s_getf (i := 168) (by decide +kernel) rfl tin_S (by decide) (tc tw_36)) (
  xval (s_iload_n (f := 1) (by decide +kernel) rfl) (
  xval (s_laload (by decide +kernel)) (
  xval (s_lret (by decide +kernel)) (
  xval_nil)))))))))))))))))
theorem c_N_className : xMet xCl y_N_className ws_N_className rm_N_className (xRun tb_N_className 3) := xMet.of (by decide) rfl v_N_className
def tb_N_memberName : xT := [(0, o_aload 0 1), (1, o_iload 1 1), (2, o_iload 2 1), (3, o_callV (xRun tb_N_requireMember 3) 0 2 1 1), (6, o_iload 1 1), (7, o_iload 2 1), (8, o_call (xRun tb_S_number 2) 2 1 0), (11, o_istore 4 2), (13, o_iload 3 1), (14, o_if (fun a => a = 0) 30), (17, o_aload 0 1), (18, o_getf 0 0), (21, o_getf 1 7), (24, o_iload 4 2), (26, o_laload), (27, o_goto 40), (30, o_aload 0 1), (31, o_getf 0 0), (34, o_getf 1 6), (37, o_iload 4 2), (39, o_laload), (40, o_lret)]
abbrev y_N_memberName : MethodName := ⟨"NameMover", "memberName", "(IIZ)J"⟩
abbrev rm_N_memberName : Room := { frames := 7, cells := 1, slots := 6, locals := 104 }
abbrev ws_N_memberName : List Cond := Cond.code y_N_memberName prog_1_method_12_code 5 (some .long) :: xtt
set_option maxRecDepth 100000 in
theorem v_N_memberName : ∀ q ∈ tb_N_memberName, xSd (0, 0) x0 xCl "NameMover" ws_N_memberName prog_1_method_12_code 5 (some .long) rm_N_memberName q :=
  xval (s_aload_n (f := 0) (by decide +kernel) rfl) (
  xval (s_iload_n (f := 1) (by decide +kernel) rfl) (
  xval (s_iload_n (f := 2) (by decide +kernel) rfl) (
  xval (s_callV (i := 137) c_N_requireMember (by decide +kernel) rfl (xtt_good tw_502) rfl (tc tw_499) (tc tw_501) (tc ts_3) (tc tw_1) ⟨by decide, by decide, by decide +kernel⟩ ⟨by decide, by decide, rfl, rfl, by decide, by decide⟩ x0_e) (
  xval (s_iload_n (f := 1) (by decide +kernel) rfl) (
  xval (s_iload_n (f := 2) (by decide +kernel) rfl) (
  xval (s_callS (i := 143) c_S_number (by decide +kernel) rfl (xtt_good tw_446) (tc tw_506) (tc tw_445) (tc tw_2) ⟨by decide, by decide, by decide +kernel⟩ ⟨by decide, by decide, rfl, rfl, by decide, by decide⟩ x0_e) (
  xval (s_istore (by decide +kernel) (by decide)) (
  xval (s_iload_n (f := 3) (by decide +kernel) rfl) (
  xval (s_ifeq (z := 16) (by decide +kernel) (by decide)) (
  xval (s_aload_n (f := 0) (by decide +kernel) rfl) (
  xval (s_getf (i := 10) (by decide +kernel) rfl tin_N (by decide) (tc tw_150)) (
  xval (s_getf (i := 171) (by decide +kernel) rfl tin_S (by decide) (tc tw_54)) (
  xval (s_iload (by decide +kernel)) (
  xval (s_laload (by decide +kernel)) (
  xval (s_goto (z := 13) (by decide +kernel) (by decide)) (
  xval (s_aload_n (f := 0) (by decide +kernel) rfl) (
  xval (s_getf (i := 10) (by decide +kernel) rfl tin_N (by decide) (tc tw_150)) (
  xval (s_getf (i := 174) (by decide +kernel) rfl tin_S (by decide) (tc tw_51)) (
  xval (s_iload (by decide +kernel)) (
  xval (s_laload (by decide +kernel)) (
  xval (s_lret (by decide +kernel)) (
  xval_nil))))))))))))))))))))))
theorem c_N_memberName : xMet xCl y_N_memberName ws_N_memberName rm_N_memberName (xRun tb_N_memberName 5) := xMet.of (by decide) rfl v_N_memberName
def tb_S_inheritedMember : xT := [(0, o_iload 1 1), (1, o_istore 6 2), (3, o_iload 6 2), (5, o_if (fun a => a < 0) 48), (8, o_aload 0 1), (9, o_iload 6 2), (11, o_iload 1 1), (12, o_callV (xRun tb_S_isSameOrAncestor 3) 1 2 0 0), (15, o_if (fun a => a = 0) 30), (18, o_aload 0 1), (19, o_iload 6 2), (21, o_lload 2 1), (22, o_lload 4 2), (24, o_callV (xRun tb_S_ownMember 8) 1 3 0 0), (27, o_goto 31), (30, o_i (-1) 1), (31, o_istore 7 2), (33, o_iload 7 2), (35, o_i (-1) 1), (36, o_ic (fun a b => a = b) 42), (39, o_iload 7 2), (41, o_iret), (42, o_iinc 6 (-1)), (45, o_goto 3), (48, o_i (-1) 1), (49, o_iret)]
abbrev y_S_inheritedMember : MethodName := ⟨"NameMover$Store", "inheritedMember", "(IJJ)I"⟩
abbrev rm_S_inheritedMember : Room := { frames := 2, cells := 0, slots := 0, locals := 48 }
abbrev ws_S_inheritedMember : List Cond := Cond.code y_S_inheritedMember prog_8_method_11_code 8 (some .int) :: xtt
set_option maxRecDepth 100000 in
theorem v_S_inheritedMember : ∀ q ∈ tb_S_inheritedMember, xSd (0, 0) x0 xCl "NameMover$Store" ws_S_inheritedMember prog_8_method_11_code 8 (some .int) rm_S_inheritedMember q :=
  xval (s_iload_n (f := 1) (by decide +kernel) rfl) (
  xval (s_istore (by decide +kernel) (by decide)) (
  xval (s_iload (by decide +kernel)) (
  xval (s_iflt (z := 43) (by decide +kernel) (by decide)) (
  xval (s_aload_n (f := 0) (by decide +kernel) rfl) (
  xval (s_iload (by decide +kernel)) (
  xval (s_iload_n (f := 1) (by decide +kernel) rfl) (
  xval (s_callV (i := 62) c_S_isSameOrAncestor (by decide +kernel) rfl (xtt_good tw_235) rfl (tc tw_524) (tc tw_233) (tc tw_234) (tc tw_2) ⟨by decide, by decide, by decide +kernel⟩ ⟨by decide, by decide, rfl, rfl, by decide, by decide⟩ x0_e) (
  xval (s_ifeq (z := 15) (by decide +kernel) (by decide)) (
  xval (s_aload_n (f := 0) (by decide +kernel) rfl) (
  xval (s_iload (by decide +kernel)) (
  xval (s_lload_n (f := 2) (by decide +kernel) rfl) (
  xval (s_lload (by decide +kernel)) (
  xval (s_callV (i := 65) c_S_ownMember (by decide +kernel) rfl (xtt_good tw_443) rfl (tc tw_440) (tc tw_441) (tc tw_442) (tc tw_2) ⟨by decide, by decide, by decide +kernel⟩ ⟨by decide, by decide, rfl, rfl, by decide, by decide⟩ x0_e) (
  xval (s_goto (z := 4) (by decide +kernel) (by decide)) (
  xval (s_iconst (z := (-1)) (by decide +kernel) (by decide)) (
  xval (s_istore (by decide +kernel) (by decide)) (
  xval (s_iload (by decide +kernel)) (
  xval (s_iconst (z := (-1)) (by decide +kernel) (by decide)) (
  xval (s_iceq (z := 6) (by decide +kernel) (by decide)) (
  xval (s_iload (by decide +kernel)) (
  xval (s_iret (by decide +kernel)) (
  xval (s_iinc (z := (-1)) (by decide +kernel) (by decide) (by decide)) (
  xval (s_goto (z := (-42)) (by decide +kernel) (by decide)) (
  xval (s_iconst (z := (-1)) (by decide +kernel) (by decide)) (
  xval (s_iret (by decide +kernel)) (
  xval_nil))))))))))))))))))))))))))
theorem c_S_inheritedMember : xMet xCl y_S_inheritedMember ws_S_inheritedMember rm_S_inheritedMember (xRun tb_S_inheritedMember 8) := xMet.of (by decide) rfl v_S_inheritedMember
end
section
def tb_N_find : xT := [(0, o_aload 0 1), (1, o_iload 1 1), (2, o_callV (xRun tb_N_requireClass 2) 0 1 1 1), (5, o_aload 0 1), (6, o_getf 0 0), (9, o_iload 1 1), (10, o_lload 2 1), (11, o_lload 4 2), (13, o_callV (xRun tb_S_inheritedMember 8) 1 3 1 0), (16, o_istore 6 2), (18, o_iload 6 2), (20, o_i (-1) 1), (21, o_icn (fun a b => a = b) 34), (24, o_throw 3 1), (34, o_iload 6 2), (36, o_iret)]
abbrev y_N_find : MethodName := ⟨"NameMover", "find", "(IJJ)I"⟩
abbrev rm_N_find : Room := { frames := 7, cells := 1, slots := 6, locals := 103 }
abbrev ws_N_find : List Cond := Cond.code y_N_find prog_1_method_13_code 7 (some .int) :: xtt
set_option maxRecDepth 100000 in
theorem v_N_find : ∀ q ∈ tb_N_find, xSd (0, 0) x0 xCl "NameMover" ws_N_find prog_1_method_13_code 7 (some .int) rm_N_find q :=
  xval (s_aload_n (f := 0) (by decide +kernel) rfl) (
  xval (s_iload_n (f := 1) (by decide +kernel) rfl) (
  xval (s_callV (i := 95) c_N_requireClass (by decide +kernel) rfl (xtt_good tw_412) rfl (tc tw_409) (tc tw_411) (tc ts_1) (tc tw_1) ⟨by decide, by decide, by decide +kernel⟩ ⟨by decide, by decide, rfl, rfl, by decide, by decide⟩ x0_e) (
  xval (s_aload_n (f := 0) (by decide +kernel) rfl) (
  xval (s_getf (i := 10) (by decide +kernel) rfl tin_N (by decide) (tc tw_150)) (
  xval (s_iload_n (f := 1) (by decide +kernel) rfl) (
  xval (s_lload_n (f := 2) (by decide +kernel) rfl) (
  xval (s_lload (by decide +kernel)) (
  xval (s_callV (i := 177) c_S_inheritedMember (by decide +kernel) rfl (xtt_good tw_562) rfl (tc tw_559) (tc tw_560) (tc tw_561) (tc tw_2) ⟨by decide, by decide, by decide +kernel⟩ ⟨by decide, by decide, rfl, rfl, by decide, by decide⟩ x0_e) (
  xval (s_istore (by decide +kernel) (by decide)) (
  xval (s_iload (by decide +kernel)) (
  xval (s_iconst (z := (-1)) (by decide +kernel) (by decide)) (
  xval (s_icne (z := 13) (by decide +kernel) (by decide)) (
  xval (s_throw (i := 181) (ik := 183) (ic := 185) (j := 13) (bs := prog_21_method_4_code) (tx := "no such member") (by decide +kernel) (by decide +kernel) (by decide +kernel) (by decide +kernel) (by decide +kernel) (tc tw_563) (tc tw_564) (tc tw_17) (tc tw_504) (by decide +kernel) (by decide +kernel) (by decide +kernel) (by decide +kernel) (by decide +kernel) (tow_3 (tc tw_572)) ⟨by decide, by decide, by decide, by decide⟩ x0_e) (
  xval (s_iload (by decide +kernel)) (
  xval (s_iret (by decide +kernel)) (
  xval_nil))))))))))))))))
theorem c_N_find : xMet xCl y_N_find ws_N_find rm_N_find (xRun tb_N_find 7) := xMet.of (by decide) rfl v_N_find
def tb_B_cutTo : xT := [(0, o_aload 0 1), (1, o_i 0 1), (2, o_iload 1 1), (3, o_aload 0 1), (4, o_getf 2 1), (7, o_min 0), (10, o_max 0), (13, o_puti 2 1), (16, o_vret)]
abbrev y_B_cutTo : MethodName := ⟨"NameMover$ByteRow", "cutTo", "(I)V"⟩
abbrev rm_B_cutTo : Room := { frames := 1, cells := 0, slots := 0, locals := 21 }
abbrev ws_B_cutTo : List Cond := Cond.code y_B_cutTo prog_2_method_3_code 2 (none) :: xtt
set_option maxRecDepth 100000 in
theorem v_B_cutTo : ∀ q ∈ tb_B_cutTo, xSd (0, 0) x0 xCl "NameMover$ByteRow" ws_B_cutTo prog_2_method_3_code 2 (none) rm_B_cutTo q :=
  xval (s_aload_n (f := 0) (by decide +kernel) rfl) (
  xval (s_iconst (z := 0) (by decide +kernel) (by decide)) (
  xval (s_iload_n (f := 1) (by decide +kernel) rfl) (
  xval (s_aload_n (f := 0) (by decide +kernel) rfl) (
  xval (s_getf (i := 13) (by decide +kernel) rfl tin_B (by decide) (tc tw_97)) (
  xval (s_min (i := 17) (by decide +kernel) (tc tw_597) (tc tw_598) (tc tw_18) (tc tw_599) ⟨by decide, by decide, trivial⟩ ⟨by decide, by decide⟩) (
  xval (s_max (i := 23) (by decide +kernel) (tc tw_600) (tc tw_601) (tc tw_18) (tc tw_602) ⟨by decide, by decide, trivial⟩ ⟨by decide, by decide⟩) (
  xval (s_puti (i := 13) (by decide +kernel) rfl tin_B (by decide) (tc tw_97) tB tB_ok nB rfl (by decide +kernel)) (
  xval (s_vret (by decide +kernel)) (
  xval_nil)))))))))
theorem c_B_cutTo : xMet xCl y_B_cutTo ws_B_cutTo rm_B_cutTo (xRun tb_B_cutTo 2) := xMet.of (by decide) rfl v_B_cutTo
def tb_B_append : xT := [(0, o_aload 0 1), (1, o_getf 2 1), (4, o_i 512 3), (7, o_ic (fun a b => b ≤ a) 30), (10, o_aload 0 1), (11, o_getf 2 0), (14, o_aload 0 1), (15, o_getf 2 1), (18, o_iload 1 1), (19, o_iastore), (20, o_aload 0 1), (21, o_dup), (22, o_getf 2 1), (25, o_i 1 1), (26, o_ii (fun a b => a + b)), (27, o_puti 2 1), (30, o_vret)]
abbrev y_B_append : MethodName := ⟨"NameMover$ByteRow", "append", "(I)V"⟩
abbrev rm_B_append : Room := { frames := 0, cells := 0, slots := 0, locals := 0 }
abbrev ws_B_append : List Cond := Cond.code y_B_append prog_2_method_7_code 2 (none) :: xtt
set_option maxRecDepth 100000 in
theorem v_B_append : ∀ q ∈ tb_B_append, xSd (0, 0) x0 xCl "NameMover$ByteRow" ws_B_append prog_2_method_7_code 2 (none) rm_B_append q :=
  xval (s_aload_n (f := 0) (by decide +kernel) rfl) (
  xval (s_getf (i := 13) (by decide +kernel) rfl tin_B (by decide) (tc tw_97)) (
  xval (s_sipush (z := 512) (by decide +kernel) (by decide)) (
  xval (s_icge (z := 23) (by decide +kernel) (by decide)) (
  xval (s_aload_n (f := 0) (by decide +kernel) rfl) (
  xval (s_getf (i := 9) (by decide +kernel) rfl tin_B (by decide) (tc tw_96)) (
  xval (s_aload_n (f := 0) (by decide +kernel) rfl) (
  xval (s_getf (i := 13) (by decide +kernel) rfl tin_B (by decide) (tc tw_97)) (
  xval (s_iload_n (f := 1) (by decide +kernel) rfl) (
  xval (s_iastore (by decide +kernel)) (
  xval (s_aload_n (f := 0) (by decide +kernel) rfl) (
  xval (s_dup (by decide +kernel)) (
  xval (s_getf (i := 13) (by decide +kernel) rfl tin_B (by decide) (tc tw_97)) (
  xval (s_iconst (z := 1) (by decide +kernel) (by decide)) (
  xval (s_iadd (by decide +kernel)) (
  xval (s_puti (i := 13) (by decide +kernel) rfl tin_B (by decide) (tc tw_97) tB tB_ok nB rfl (by decide +kernel)) (
  xval (s_vret (by decide +kernel)) (
  xval_nil)))))))))))))))))
theorem c_B_append : xMet xCl y_B_append ws_B_append rm_B_append (xRun tb_B_append 2) := xMet.of (by decide) rfl v_B_append
def tb_W_begin : xT := [(0, o_aload 0 1), (1, o_getf 3 1), (4, o_i 0 1), (5, o_callV (xRun tb_B_cutTo 2) 2 1 0 0), (8, o_aload 0 1), (9, o_getf 3 1), (12, o_i 202 3), (15, o_callV (xRun tb_B_append 2) 2 1 0 0), (18, o_aload 0 1), (19, o_getf 3 1), (22, o_i 0 1), (23, o_callV (xRun tb_B_append 2) 2 1 0 0), (26, o_aload 0 1), (27, o_i 0 1), (28, o_puti 3 5), (31, o_aload 0 1), (32, o_i 0 1), (33, o_puti 3 3), (36, o_vret)]
abbrev y_W_begin : MethodName := ⟨"NameMover$ClassWriter", "begin", "()V"⟩
abbrev rm_W_begin : Room := { frames := 2, cells := 0, slots := 0, locals := 42 }
abbrev ws_W_begin : List Cond := Cond.code y_W_begin prog_4_method_3_code 1 (none) :: xtt
set_option maxRecDepth 100000 in
theorem v_W_begin : ∀ q ∈ tb_W_begin, xSd (0, 0) x0 xCl "NameMover$ClassWriter" ws_W_begin prog_4_method_3_code 1 (none) rm_W_begin q :=
  xval (s_aload_n (f := 0) (by decide +kernel) rfl) (
  xval (s_getf (i := 29) (by decide +kernel) rfl tin_W (by decide) (tc tw_110)) (
  xval (s_iconst (z := 0) (by decide +kernel) (by decide)) (
  xval (s_callV (i := 79) c_B_cutTo (by decide +kernel) rfl (xtt_good tw_596) rfl (tc tw_593) (tc tw_594) (tc tw_595) (tc tw_3) ⟨by decide, by decide, by decide +kernel⟩ ⟨by decide, by decide, rfl, rfl, by decide, by decide⟩ x0_e) (
  xval (s_aload_n (f := 0) (by decide +kernel) rfl) (
  xval (s_getf (i := 29) (by decide +kernel) rfl tin_W (by decide) (tc tw_110)) (
  xval (s_sipush (z := 202) (by decide +kernel) (by decide)) (
  xval (s_callV (i := 84) c_B_append (by decide +kernel) rfl (xtt_good tw_606) rfl (tc tw_603) (tc tw_604) (tc tw_605) (tc tw_3) ⟨by decide, by decide, by decide +kernel⟩ ⟨by decide, by decide, rfl, rfl, by decide, by decide⟩ x0_e) (
  xval (s_aload_n (f := 0) (by decide +kernel) rfl) (
  xval (s_getf (i := 29) (by decide +kernel) rfl tin_W (by decide) (tc tw_110)) (
  xval (s_iconst (z := 0) (by decide +kernel) (by decide)) (
  xval (s_callV (i := 84) c_B_append (by decide +kernel) rfl (xtt_good tw_606) rfl (tc tw_603) (tc tw_604) (tc tw_605) (tc tw_3) ⟨by decide, by decide, by decide +kernel⟩ ⟨by decide, by decide, rfl, rfl, by decide, by decide⟩ x0_e) (
  xval (s_aload_n (f := 0) (by decide +kernel) rfl) (
  xval (s_iconst (z := 0) (by decide +kernel) (by decide)) (
  xval (s_puti (i := 22) (by decide +kernel) rfl tin_W (by decide) (tc tw_114) tW tW_ok nW rfl (by decide +kernel)) (
  xval (s_aload_n (f := 0) (by decide +kernel) rfl) (
  xval (s_iconst (z := 0) (by decide +kernel) (by decide)) (
  xval (s_puti (i := 15) (by decide +kernel) rfl tin_W (by decide) (tc tw_112) tW tW_ok nW rfl (by decide +kernel)) (
  xval (s_vret (by decide +kernel)) (
  xval_nil)))))))))))))))))))
theorem c_W_begin : xMet xCl y_W_begin ws_W_begin rm_W_begin (xRun tb_W_begin 1) := xMet.of (by decide) rfl v_W_begin
def tb_B_size : xT := [(0, o_aload 0 1), (1, o_getf 2 1), (4, o_iret)]
abbrev y_B_size : MethodName := ⟨"NameMover$ByteRow", "size", "()I"⟩
abbrev rm_B_size : Room := { frames := 0, cells := 0, slots := 0, locals := 0 }
abbrev ws_B_size : List Cond := Cond.code y_B_size prog_2_method_2_code 1 (some .int) :: xtt
set_option maxRecDepth 100000 in
theorem v_B_size : ∀ q ∈ tb_B_size, xSd (0, 0) x0 xCl "NameMover$ByteRow" ws_B_size prog_2_method_2_code 1 (some .int) rm_B_size q :=
  xval (s_aload_n (f := 0) (by decide +kernel) rfl) (
  xval (s_getf (i := 13) (by decide +kernel) rfl tin_B (by decide) (tc tw_97)) (
  xval (s_iret (by decide +kernel)) (
  xval_nil)))
theorem c_B_size : xMet xCl y_B_size ws_B_size rm_B_size (xRun tb_B_size 1) := xMet.of (by decide) rfl v_B_size
def tb_W_openText : xT := [(0, o_aload 0 1), (1, o_getf 3 5), (4, o_i 14 2), (6, o_ic (fun a b => b ≤ a) 43), (9, o_aload 0 1), (10, o_dup), (11, o_getf 3 5), (14, o_i 1 1), (15, o_ii (fun a b => a + b)), (16, o_puti 3 5), (19, o_aload 0 1), (20, o_getf 3 4), (23, o_aload 0 1), (24, o_getf 3 5), (27, o_aload 0 1), (28, o_getf 3 1), (31, o_callV (xRun tb_B_size 1) 2 0 0 0), (34, o_iastore), (35, o_aload 0 1), (36, o_getf 3 1), (39, o_i 0 1), (40, o_callV (xRun tb_B_append 2) 2 1 0 0), (43, o_vret)]
abbrev y_W_openText : MethodName := ⟨"NameMover$ClassWriter", "openText", "()V"⟩
abbrev rm_W_openText : Room := { frames := 1, cells := 0, slots := 0, locals := 21 }
abbrev ws_W_openText : List Cond := Cond.code y_W_openText prog_4_method_9_code 1 (none) :: xtt
set_option maxRecDepth 100000 in
theorem v_W_openText : ∀ q ∈ tb_W_openText, xSd (0, 0) x0 xCl "NameMover$ClassWriter" ws_W_openText prog_4_method_9_code 1 (none) rm_W_openText q :=
  xval (s_aload_n (f := 0) (by decide +kernel) rfl) (
  xval (s_getf (i := 22) (by decide +kernel) rfl tin_W (by decide) (tc tw_114)) (
  xval (s_bipush (z := 14) (by decide +kernel) (by decide)) (
  xval (s_icge (z := 37) (by decide +kernel) (by decide)) (
  xval (s_aload_n (f := 0) (by decide +kernel) rfl) (
  xval (s_dup (by decide +kernel)) (
  xval (s_getf (i := 22) (by decide +kernel) rfl tin_W (by decide) (tc tw_114)) (
  xval (s_iconst (z := 1) (by decide +kernel) (by decide)) (
  xval (s_iadd (by decide +kernel)) (
  xval (s_puti (i := 22) (by decide +kernel) rfl tin_W (by decide) (tc tw_114) tW tW_ok nW rfl (by decide +kernel)) (
  xval (s_aload_n (f := 0) (by decide +kernel) rfl) (
  xval (s_getf (i := 19) (by decide +kernel) rfl tin_W (by decide) (tc tw_113)) (
  xval (s_aload_n (f := 0) (by decide +kernel) rfl) (
  xval (s_getf (i := 22) (by decide +kernel) rfl tin_W (by decide) (tc tw_114)) (
  xval (s_aload_n (f := 0) (by decide +kernel) rfl) (
  xval (s_getf (i := 29) (by decide +kernel) rfl tin_W (by decide) (tc tw_110)) (
  xval (s_callV (i := 116) c_B_size (by decide +kernel) rfl (xtt_good tw_618) rfl (tc tw_615) (tc tw_616) (tc tw_617) (tc tw_3) ⟨by decide, by decide, by decide +kernel⟩ ⟨by decide, by decide, rfl, rfl, by decide, by decide⟩ x0_e) (
  xval (s_iastore (by decide +kernel)) (
  xval (s_aload_n (f := 0) (by decide +kernel) rfl) (
  xval (s_getf (i := 29) (by decide +kernel) rfl tin_W (by decide) (tc tw_110)) (
  xval (s_iconst (z := 0) (by decide +kernel) (by decide)) (
  xval (s_callV (i := 84) c_B_append (by decide +kernel) rfl (xtt_good tw_606) rfl (tc tw_603) (tc tw_604) (tc tw_605) (tc tw_3) ⟨by decide, by decide, by decide +kernel⟩ ⟨by decide, by decide, rfl, rfl, by decide, by decide⟩ x0_e) (
  xval (s_vret (by decide +kernel)) (
  xval_nil)))))))))))))))))))))))
theorem c_W_openText : xMet xCl y_W_openText ws_W_openText rm_W_openText (xRun tb_W_openText 1) := xMet.of (by decide) rfl v_W_openText
def tb_W_appendText : xT := [(0, o_lload 1 1), (1, o_call (xRun tb_T_length 3) 1 0 0), (4, o_istore 3 1), (5, o_i 0 1), (6, o_istore 4 2), (8, o_iload 4 2), (10, o_iload 3 1), (11, o_ic (fun a b => b ≤ a) 33), (14, o_aload 0 1), (15, o_getf 3 1), (18, o_lload 1 1), (19, o_iload 4 2), (21, o_call (xRun tb_T_charAt 3) 2 0 0), (24, o_callV (xRun tb_B_append 2) 2 1 0 0), (27, o_iinc 4 1), (30, o_goto 8), (33, o_vret)]
abbrev y_W_appendText : MethodName := ⟨"NameMover$ClassWriter", "appendText", "(J)V"⟩
abbrev rm_W_appendText : Room := { frames := 2, cells := 0, slots := 0, locals := 44 }
abbrev ws_W_appendText : List Cond := Cond.code y_W_appendText prog_4_method_8_code 5 (none) :: xtt
set_option maxRecDepth 100000 in
theorem v_W_appendText : ∀ q ∈ tb_W_appendText, xSd (0, 0) x0 xCl "NameMover$ClassWriter" ws_W_appendText prog_4_method_8_code 5 (none) rm_W_appendText q :=
  xval (s_lload_n (f := 1) (by decide +kernel) rfl) (
  xval (s_callS (i := 100) c_T_length (by decide +kernel) rfl (xtt_good tw_272) (tc tw_623) (tc tw_271) (tc tw_7) ⟨by decide, by decide, by decide +kernel⟩ ⟨by decide, by decide, rfl, rfl, by decide, by decide⟩ x0_e) (
  xval (s_istore_n (f := 3) (by decide +kernel) rfl (by decide)) (
  xval (s_iconst (z := 0) (by decide +kernel) (by decide)) (
  xval (s_istore (by decide +kernel) (by decide)) (
  xval (s_iload (by decide +kernel)) (
  xval (s_iload_n (f := 3) (by decide +kernel) rfl) (
  xval (s_icge (z := 22) (by decide +kernel) (by decide)) (
  xval (s_aload_n (f := 0) (by decide +kernel) rfl) (
  xval (s_getf (i := 29) (by decide +kernel) rfl tin_W (by decide) (tc tw_110)) (
  xval (s_lload_n (f := 1) (by decide +kernel) rfl) (
  xval (s_iload (by decide +kernel)) (
  xval (s_callS (i := 106) c_T_charAt (by decide +kernel) rfl (xtt_good tw_222) (tc tw_624) (tc tw_221) (tc tw_7) ⟨by decide, by decide, by decide +kernel⟩ ⟨by decide, by decide, rfl, rfl, by decide, by decide⟩ x0_e) (
  xval (s_callV (i := 84) c_B_append (by decide +kernel) rfl (xtt_good tw_606) rfl (tc tw_603) (tc tw_604) (tc tw_605) (tc tw_3) ⟨by decide, by decide, by decide +kernel⟩ ⟨by decide, by decide, rfl, rfl, by decide, by decide⟩ x0_e) (
  xval (s_iinc (z := 1) (by decide +kernel) (by decide) (by decide)) (
  xval (s_goto (z := (-22)) (by decide +kernel) (by decide)) (
  xval (s_vret (by decide +kernel)) (
  xval_nil)))))))))))))))))
theorem c_W_appendText : xMet xCl y_W_appendText ws_W_appendText rm_W_appendText (xRun tb_W_appendText 5) := xMet.of (by decide) rfl v_W_appendText
def tb_B_has : xT := [(0, o_iload 1 1), (1, o_if (fun a => a < 0) 16), (4, o_iload 1 1), (5, o_aload 0 1), (6, o_getf 2 1), (9, o_ic (fun a b => b ≤ a) 16), (12, o_i 1 1), (13, o_goto 17), (16, o_i 0 1), (17, o_zret)]
abbrev y_B_has : MethodName := ⟨"NameMover$ByteRow", "has", "(I)Z"⟩
abbrev rm_B_has : Room := { frames := 0, cells := 0, slots := 0, locals := 0 }
abbrev ws_B_has : List Cond := Cond.code y_B_has prog_2_method_4_code 2 (some .boolean) :: xtt
set_option maxRecDepth 100000 in
theorem v_B_has : ∀ q ∈ tb_B_has, xSd (0, 0) x0 xCl "NameMover$ByteRow" ws_B_has prog_2_method_4_code 2 (some .boolean) rm_B_has q :=
  xval (s_iload_n (f := 1) (by decide +kernel) rfl) (
  xval (s_iflt (z := 15) (by decide +kernel) (by decide)) (
  xval (s_iload_n (f := 1) (by decide +kernel) rfl) (
  xval (s_aload_n (f := 0) (by decide +kernel) rfl) (
  xval (s_getf (i := 13) (by decide +kernel) rfl tin_B (by decide) (tc tw_97)) (
  xval (s_icge (z := 7) (by decide +kernel) (by decide)) (
  xval (s_iconst (z := 1) (by decide +kernel) (by decide)) (
  xval (s_goto (z := 4) (by decide +kernel) (by decide)) (
  xval (s_iconst (z := 0) (by decide +kernel) (by decide)) (
  xval (s_zret (by decide +kernel)) (
  xval_nil))))))))))
theorem c_B_has : xMet xCl y_B_has ws_B_has rm_B_has (xRun tb_B_has 2) := xMet.of (by decide) rfl v_B_has
def tb_B_set : xT := [(0, o_aload 0 1), (1, o_iload 1 1), (2, o_callV (xRun tb_B_has 2) 2 1 0 0), (5, o_if (fun a => a = 0) 15), (8, o_aload 0 1), (9, o_getf 2 0), (12, o_iload 1 1), (13, o_iload 2 1), (14, o_iastore), (15, o_vret)]
abbrev y_B_set : MethodName := ⟨"NameMover$ByteRow", "set", "(II)V"⟩
abbrev rm_B_set : Room := { frames := 1, cells := 0, slots := 0, locals := 21 }
abbrev ws_B_set : List Cond := Cond.code y_B_set prog_2_method_6_code 3 (none) :: xtt
set_option maxRecDepth 100000 in
theorem v_B_set : ∀ q ∈ tb_B_set, xSd (0, 0) x0 xCl "NameMover$ByteRow" ws_B_set prog_2_method_6_code 3 (none) rm_B_set q :=
  xval (s_aload_n (f := 0) (by decide +kernel) rfl) (
  xval (s_iload_n (f := 1) (by decide +kernel) rfl) (
  xval (s_callV (i := 26) c_B_has (by decide +kernel) rfl (xtt_good tw_636) rfl (tc tw_633) (tc tw_634) (tc tw_635) (tc tw_3) ⟨by decide, by decide, by decide +kernel⟩ ⟨by decide, by decide, rfl, rfl, by decide, by decide⟩ x0_e) (
  xval (s_ifeq (z := 10) (by decide +kernel) (by decide)) (
  xval (s_aload_n (f := 0) (by decide +kernel) rfl) (
  xval (s_getf (i := 9) (by decide +kernel) rfl tin_B (by decide) (tc tw_96)) (
  xval (s_iload_n (f := 1) (by decide +kernel) rfl) (
  xval (s_iload_n (f := 2) (by decide +kernel) rfl) (
  xval (s_iastore (by decide +kernel)) (
  xval (s_vret (by decide +kernel)) (
  xval_nil))))))))))
theorem c_B_set : xMet xCl y_B_set ws_B_set rm_B_set (xRun tb_B_set 3) := xMet.of (by decide) rfl v_B_set
def tb_B_get : xT := [(0, o_iload 1 1), (1, o_if (fun a => a < 0) 21), (4, o_iload 1 1), (5, o_aload 0 1), (6, o_getf 2 1), (9, o_ic (fun a b => b ≤ a) 21), (12, o_aload 0 1), (13, o_getf 2 0), (16, o_iload 1 1), (17, o_iaload), (18, o_goto 22), (21, o_i 0 1), (22, o_iret)]
abbrev y_B_get : MethodName := ⟨"NameMover$ByteRow", "get", "(I)I"⟩
abbrev rm_B_get : Room := { frames := 0, cells := 0, slots := 0, locals := 0 }
abbrev ws_B_get : List Cond := Cond.code y_B_get prog_2_method_5_code 2 (some .int) :: xtt
set_option maxRecDepth 100000 in
theorem v_B_get : ∀ q ∈ tb_B_get, xSd (0, 0) x0 xCl "NameMover$ByteRow" ws_B_get prog_2_method_5_code 2 (some .int) rm_B_get q :=
  xval (s_iload_n (f := 1) (by decide +kernel) rfl) (
  xval (s_iflt (z := 20) (by decide +kernel) (by decide)) (
  xval (s_iload_n (f := 1) (by decide +kernel) rfl) (
  xval (s_aload_n (f := 0) (by decide +kernel) rfl) (
  xval (s_getf (i := 13) (by decide +kernel) rfl tin_B (by decide) (tc tw_97)) (
  xval (s_icge (z := 12) (by decide +kernel) (by decide)) (
  xval (s_aload_n (f := 0) (by decide +kernel) rfl) (
  xval (s_getf (i := 9) (by decide +kernel) rfl tin_B (by decide) (tc tw_96)) (
  xval (s_iload_n (f := 1) (by decide +kernel) rfl) (
  xval (s_iaload (by decide +kernel)) (
  xval (s_goto (z := 4) (by decide +kernel) (by decide)) (
  xval (s_iconst (z := 0) (by decide +kernel) (by decide)) (
  xval (s_iret (by decide +kernel)) (
  xval_nil)))))))))))))
theorem c_B_get : xMet xCl y_B_get ws_B_get rm_B_get (xRun tb_B_get 2) := xMet.of (by decide) rfl v_B_get
def tb_B_hasEqualBytes : xT := [(0, o_i 0 1), (1, o_istore 5 2), (3, o_iload 5 2), (5, o_iload 4 2), (7, o_ic (fun a b => b ≤ a) 37), (10, o_aload 0 1), (11, o_iload 1 1), (12, o_iload 5 2), (14, o_ii (fun a b => a + b)), (15, o_callV (xRun tb_B_get 2) 2 1 0 0), (18, o_aload 2 1), (19, o_iload 3 1), (20, o_iload 5 2), (22, o_ii (fun a b => a + b)), (23, o_callV (xRun tb_B_get 2) 2 1 0 0), (26, o_ic (fun a b => a = b) 31), (29, o_i 0 1), (30, o_zret), (31, o_iinc 5 1), (34, o_goto 3), (37, o_i 1 1), (38, o_zret)]
abbrev y_B_hasEqualBytes : MethodName := ⟨"NameMover$ByteRow", "hasEqualBytes", "(ILNameMover$ByteRow;II)Z"⟩
abbrev rm_B_hasEqualBytes : Room := { frames := 1, cells := 0, slots := 0, locals := 21 }
abbrev ws_B_hasEqualBytes : List Cond := Cond.code y_B_hasEqualBytes prog_2_method_9_code 6 (some .boolean) :: xtt
set_option maxRecDepth 100000 in
theorem v_B_hasEqualBytes : ∀ q ∈ tb_B_hasEqualBytes, xSd (0, 0) x0 xCl "NameMover$ByteRow" ws_B_hasEqualBytes prog_2_method_9_code 6 (some .boolean) rm_B_hasEqualBytes q :=
  xval (s_iconst (z := 0) (by decide +kernel) (by decide)) (
  xval (s_istore (by decide +kernel) (by decide)) (
  xval (s_iload (by decide +kernel)) (
  xval (s_iload (by decide +kernel)) (
  xval (s_icge (z := 30) (by decide +kernel) (by decide)) (
  xval (s_aload_n (f := 0) (by decide +kernel) rfl) (
  xval (s_iload_n (f := 1) (by decide +kernel) rfl) (
  xval (s_iload (by decide +kernel)) (
  xval (s_iadd (by decide +kernel)) (
  xval (s_callV (i := 34) c_B_get (by decide +kernel) rfl (xtt_good tw_644) rfl (tc tw_641) (tc tw_642) (tc tw_643) (tc tw_3) ⟨by decide, by decide, by decide +kernel⟩ ⟨by decide, by decide, rfl, rfl, by decide, by decide⟩ x0_e) (
  xval (s_aload_n (f := 2) (by decide +kernel) rfl) (
  xval (s_iload_n (f := 3) (by decide +kernel) rfl) (
  xval (s_iload (by decide +kernel)) (
  xval (s_iadd (by decide +kernel)) (
  xval (s_callV (i := 34) c_B_get (by decide +kernel) rfl (xtt_good tw_644) rfl (tc tw_641) (tc tw_642) (tc tw_643) (tc tw_3) ⟨by decide, by decide, by decide +kernel⟩ ⟨by decide, by decide, rfl, rfl, by decide, by decide⟩ x0_e) (
  xval (s_iceq (z := 5) (by decide +kernel) (by decide)) (
  xval (s_iconst (z := 0) (by decide +kernel) (by decide)) (
  xval (s_zret (by decide +kernel)) (
  xval (s_iinc (z := 1) (by decide +kernel) (by decide) (by decide)) (
  xval (s_goto (z := (-31)) (by decide +kernel) (by decide)) (
  xval (s_iconst (z := 1) (by decide +kernel) (by decide)) (
  xval (s_zret (by decide +kernel)) (
  xval_nil))))))))))))))))))))))
theorem c_B_hasEqualBytes : xMet xCl y_B_hasEqualBytes ws_B_hasEqualBytes rm_B_hasEqualBytes (xRun tb_B_hasEqualBytes 6) := xMet.of (by decide) rfl v_B_hasEqualBytes
def tb_W_useNumber : xT := [(0, o_aload 0 1), (1, o_getf 3 3), (4, o_i 22 2), (6, o_ic (fun a b => b ≤ a) 29), (9, o_aload 0 1), (10, o_getf 3 2), (13, o_aload 0 1), (14, o_getf 3 3), (17, o_iload 1 1), (18, o_iastore), (19, o_aload 0 1), (20, o_dup), (21, o_getf 3 3), (24, o_i 1 1), (25, o_ii (fun a b => a + b)), (26, o_puti 3 3), (29, o_vret)]
abbrev y_W_useNumber : MethodName := ⟨"NameMover$ClassWriter", "useNumber", "(I)V"⟩
abbrev rm_W_useNumber : Room := { frames := 0, cells := 0, slots := 0, locals := 0 }
abbrev ws_W_useNumber : List Cond := Cond.code y_W_useNumber prog_4_method_5_code 2 (none) :: xtt
set_option maxRecDepth 100000 in
theorem v_W_useNumber : ∀ q ∈ tb_W_useNumber, xSd (0, 0) x0 xCl "NameMover$ClassWriter" ws_W_useNumber prog_4_method_5_code 2 (none) rm_W_useNumber q :=
  xval (s_aload_n (f := 0) (by decide +kernel) rfl) (
  xval (s_getf (i := 15) (by decide +kernel) rfl tin_W (by decide) (tc tw_112)) (
  xval (s_bipush (z := 22) (by decide +kernel) (by decide)) (
  xval (s_icge (z := 23) (by decide +kernel) (by decide)) (
  xval (s_aload_n (f := 0) (by decide +kernel) rfl) (
  xval (s_getf (i := 9) (by decide +kernel) rfl tin_W (by decide) (tc tw_111)) (
  xval (s_aload_n (f := 0) (by decide +kernel) rfl) (
  xval (s_getf (i := 15) (by decide +kernel) rfl tin_W (by decide) (tc tw_112)) (
  xval (s_iload_n (f := 1) (by decide +kernel) rfl) (
  xval (s_iastore (by decide +kernel)) (
  xval (s_aload_n (f := 0) (by decide +kernel) rfl) (
  xval (s_dup (by decide +kernel)) (
  xval (s_getf (i := 15) (by decide +kernel) rfl tin_W (by decide) (tc tw_112)) (
  xval (s_iconst (z := 1) (by decide +kernel) (by decide)) (
  xval (s_iadd (by decide +kernel)) (
  xval (s_puti (i := 15) (by decide +kernel) rfl tin_W (by decide) (tc tw_112) tW tW_ok nW rfl (by decide +kernel)) (
  xval (s_vret (by decide +kernel)) (
  xval_nil)))))))))))))))))
theorem c_W_useNumber : xMet xCl y_W_useNumber ws_W_useNumber rm_W_useNumber (xRun tb_W_useNumber 2) := xMet.of (by decide) rfl v_W_useNumber
def tb_W_closeText : xT := [(0, o_aload 0 1), (1, o_getf 3 4), (4, o_aload 0 1), (5, o_getf 3 5), (8, o_iaload), (9, o_istore 1 1), (10, o_aload 0 1), (11, o_getf 3 1), (14, o_callV (xRun tb_B_size 1) 2 0 0 0), (17, o_iload 1 1), (18, o_ii (fun a b => a - b)), (19, o_i 1 1), (20, o_ii (fun a b => a - b)), (21, o_istore 2 1), (22, o_aload 0 1), (23, o_getf 3 1), (26, o_iload 1 1), (27, o_iload 2 1), (28, o_callV (xRun tb_B_set 3) 2 2 0 0), (31, o_i 1 1), (32, o_istore 3 1), (33, o_iload 3 1), (34, o_aload 0 1), (35, o_getf 3 5), (38, o_ic (fun a b => b ≤ a) 71), (41, o_aload 0 1), (42, o_getf 3 1), (45, o_aload 0 1), (46, o_getf 3 4), (49, o_iload 3 1), (50, o_iaload), (51, o_aload 0 1), (52, o_getf 3 1), (55, o_iload 1 1), (56, o_iload 2 1), (57, o_i 1 1), (58, o_ii (fun a b => a + b)), (59, o_callV (xRun tb_B_hasEqualBytes 6) 2 4 0 0), (62, o_ifn (fun a => a = 0) 71), (65, o_iinc 3 1), (68, o_goto 33), (71, o_iload 3 1), (72, o_aload 0 1), (73, o_getf 3 5), (76, o_ic (fun a b => b ≤ a) 97), (79, o_aload 0 1), (80, o_getf 3 1), (83, o_iload 1 1), (84, o_callV (xRun tb_B_cutTo 2) 2 1 0 0), (87, o_aload 0 1), (88, o_dup), (89, o_getf 3 5), (92, o_i 1 1), (93, o_ii (fun a b => a - b)), (94, o_puti 3 5), (97, o_aload 0 1), (98, o_iload 3 1), (99, o_callV (xRun tb_W_useNumber 2) 3 1 0 0), (102, o_vret)]
abbrev y_W_closeText : MethodName := ⟨"NameMover$ClassWriter", "closeText", "()V"⟩
abbrev rm_W_closeText : Room := { frames := 2, cells := 0, slots := 0, locals := 46 }
abbrev ws_W_closeText : List Cond := Cond.code y_W_closeText prog_4_method_10_code 4 (none) :: xtt
set_option maxRecDepth 100000 in
theorem v_W_closeText : ∀ q ∈ tb_W_closeText, xSd (0, 0) x0 xCl "NameMover$ClassWriter" ws_W_closeText prog_4_method_10_code 4 (none) rm_W_closeText q :=
  xval (s_aload_n (f := 0) (by decide +kernel) rfl) (
  xval (s_getf (i := 19) (by decide +kernel) rfl tin_W (by decide) (tc tw_113)) (
  xval (s_aload_n (f := 0) (by decide +kernel) rfl) (
  xval (s_getf (i := 22) (by decide +kernel) rfl tin_W (by decide) (tc tw_114)) (
  xval (s_iaload (by decide +kernel)) (
  xval (s_istore_n (f := 1) (by decide +kernel) rfl (by decide)) (
  xval (s_aload_n (f := 0) (by decide +kernel) rfl) (
  xval (s_getf (i := 29) (by decide +kernel) rfl tin_W (by decide) (tc tw_110)) (
  xval (s_callV (i := 116) c_B_size (by decide +kernel) rfl (xtt_good tw_618) rfl (tc tw_615) (tc tw_616) (tc tw_617) (tc tw_3) ⟨by decide, by decide, by decide +kernel⟩ ⟨by decide, by decide, rfl, rfl, by decide, by decide⟩ x0_e) (
  xval (s_iload_n (f := 1) (by decide +kernel) rfl) (
  xval (s_isub (by decide +kernel)) (
  xval (s_iconst (z := 1) (by decide +kernel) (by decide)) (
  xval (s_isub (by decide +kernel)) (
  xval (s_istore_n (f := 2) (by decide +kernel) rfl (by decide)) (
  xval (s_aload_n (f := 0) (by decide +kernel) rfl) (
  xval (s_getf (i := 29) (by decide +kernel) rfl tin_W (by decide) (tc tw_110)) (
  xval (s_iload_n (f := 1) (by decide +kernel) rfl) (
  xval (s_iload_n (f := 2) (by decide +kernel) rfl) (
  xval (s_callV (i := 87) c_B_set (by decide +kernel) rfl (xtt_good tw_632) rfl (tc tw_629) (tc tw_630) (tc tw_631) (tc tw_3) ⟨by decide, by decide, by decide +kernel⟩ ⟨by decide, by decide, rfl, rfl, by decide, by decide⟩ x0_e) (
  xval (s_iconst (z := 1) (by decide +kernel) (by decide)) (
  xval (s_istore_n (f := 3) (by decide +kernel) rfl (by decide)) (
  xval (s_iload_n (f := 3) (by decide +kernel) rfl) (
  xval (s_aload_n (f := 0) (by decide +kernel) rfl) (
  xval (s_getf (i := 22) (by decide +kernel) rfl tin_W (by decide) (tc tw_114)) (
  xval (s_icge (z := 33) (by decide +kernel) (by decide)) (
  xval (s_aload_n (f := 0) (by decide +kernel) rfl) (
  xval (s_getf (i := 29) (by decide +kernel) rfl tin_W (by decide) (tc tw_110)) (
  xval (s_aload_n (f := 0) (by decide +kernel) rfl) (
  xval (s_getf (i := 19) (by decide +kernel) rfl tin_W (by decide) (tc tw_113)) (
  xval (s_iload_n (f := 3) (by decide +kernel) rfl) (
  xval (s_iaload (by decide +kernel)) (
  xval (s_aload_n (f := 0) (by decide +kernel) rfl) (
  xval (s_getf (i := 29) (by decide +kernel) rfl tin_W (by decide) (tc tw_110)) (
  xval (s_iload_n (f := 1) (by decide +kernel) rfl) (
  xval (s_iload_n (f := 2) (by decide +kernel) rfl) (
  xval (s_iconst (z := 1) (by decide +kernel) (by decide)) (
  xval (s_iadd (by decide +kernel)) (
  xval (s_callV (i := 120) c_B_hasEqualBytes (by decide +kernel) rfl (xtt_good tw_640) rfl (tc tw_637) (tc tw_638) (tc tw_639) (tc tw_3) ⟨by decide, by decide, by decide +kernel⟩ ⟨by decide, by decide, rfl, rfl, by decide, by decide⟩ x0_e) (
  xval (s_ifne (z := 9) (by decide +kernel) (by decide)) (
  xval (s_iinc (z := 1) (by decide +kernel) (by decide) (by decide)) (
  xval (s_goto (z := (-35)) (by decide +kernel) (by decide)) (
  xval (s_iload_n (f := 3) (by decide +kernel) rfl) (
  xval (s_aload_n (f := 0) (by decide +kernel) rfl) (
  xval (s_getf (i := 22) (by decide +kernel) rfl tin_W (by decide) (tc tw_114)) (
  xval (s_icge (z := 21) (by decide +kernel) (by decide)) (
  xval (s_aload_n (f := 0) (by decide +kernel) rfl) (
  xval (s_getf (i := 29) (by decide +kernel) rfl tin_W (by decide) (tc tw_110)) (
  xval (s_iload_n (f := 1) (by decide +kernel) rfl) (
  xval (s_callV (i := 79) c_B_cutTo (by decide +kernel) rfl (xtt_good tw_596) rfl (tc tw_593) (tc tw_594) (tc tw_595) (tc tw_3) ⟨by decide, by decide, by decide +kernel⟩ ⟨by decide, by decide, rfl, rfl, by decide, by decide⟩ x0_e) (
  xval (s_aload_n (f := 0) (by decide +kernel) rfl) (
  xval (s_dup (by decide +kernel)) (
  xval (s_getf (i := 22) (by decide +kernel) rfl tin_W (by decide) (tc tw_114)) (
  xval (s_iconst (z := 1) (by decide +kernel) (by decide)) (
  xval (s_isub (by decide +kernel)) (
  xval (s_puti (i := 22) (by decide +kernel) rfl tin_W (by decide) (tc tw_114) tW tW_ok nW rfl (by decide +kernel)) (
  xval (s_aload_n (f := 0) (by decide +kernel) rfl) (
  xval (s_iload_n (f := 3) (by decide +kernel) rfl) (
  xval (s_callV (i := 49) c_W_useNumber (by decide +kernel) rfl (xtt_good tw_648) rfl (tc tw_645) (tc tw_647) (tc ts_12) (tc tw_4) ⟨by decide, by decide, by decide +kernel⟩ ⟨by decide, by decide, rfl, rfl, by decide, by decide⟩ x0_e) (
  xval (s_vret (by decide +kernel)) (
  xval_nil)))))))))))))))))))))))))))))))))))))))))))))))))))))))))))
theorem c_W_closeText : xMet xCl y_W_closeText ws_W_closeText rm_W_closeText (xRun tb_W_closeText 4) := xMet.of (by decide) rfl v_W_closeText
def tb_W_useText : xT := [(0, o_aload 0 1), (1, o_callV (xRun tb_W_openText 1) 3 0 0 0), (4, o_aload 0 1), (5, o_lload 1 1), (6, o_callV (xRun tb_W_appendText 5) 3 1 0 0), (9, o_aload 0 1), (10, o_callV (xRun tb_W_closeText 4) 3 0 0 0), (13, o_vret)]
abbrev y_W_useText : MethodName := ⟨"NameMover$ClassWriter", "useText", "(J)V"⟩
abbrev rm_W_useText : Room := { frames := 3, cells := 0, slots := 0, locals := 69 }
abbrev ws_W_useText : List Cond := Cond.code y_W_useText prog_4_method_6_code 3 (none) :: xtt
set_option maxRecDepth 100000 in
theorem v_W_useText : ∀ q ∈ tb_W_useText, xSd (0, 0) x0 xCl "NameMover$ClassWriter" ws_W_useText prog_4_method_6_code 3 (none) rm_W_useText q :=
  xval (s_aload_n (f := 0) (by decide +kernel) rfl) (
  xval (s_callV (i := 91) c_W_openText (by decide +kernel) rfl (xtt_good tw_614) rfl (tc tw_611) (tc tw_613) (tc ts_9) (tc tw_4) ⟨by decide, by decide, by decide +kernel⟩ ⟨by decide, by decide, rfl, rfl, by decide, by decide⟩ x0_e) (
  xval (s_aload_n (f := 0) (by decide +kernel) rfl) (
  xval (s_lload_n (f := 1) (by decide +kernel) rfl) (
  xval (s_callV (i := 94) c_W_appendText (by decide +kernel) rfl (xtt_good tw_622) rfl (tc tw_619) (tc tw_621) (tc ts_10) (tc tw_4) ⟨by decide, by decide, by decide +kernel⟩ ⟨by decide, by decide, rfl, rfl, by decide, by decide⟩ x0_e) (
  xval (s_aload_n (f := 0) (by decide +kernel) rfl) (
  xval (s_callV (i := 97) c_W_closeText (by decide +kernel) rfl (xtt_good tw_628) rfl (tc tw_625) (tc tw_627) (tc ts_11) (tc tw_4) ⟨by decide, by decide, by decide +kernel⟩ ⟨by decide, by decide, rfl, rfl, by decide, by decide⟩ x0_e) (
  xval (s_vret (by decide +kernel)) (
  xval_nil))))))))
theorem c_W_useText : xMet xCl y_W_useText ws_W_useText rm_W_useText (xRun tb_W_useText 3) := xMet.of (by decide) rfl v_W_useText
def tb_W_useDescriptor : xT := [(0, o_aload 0 1), (1, o_callV (xRun tb_W_openText 1) 3 0 0 0), (4, o_lload 1 1), (5, o_call (xRun tb_T_length 3) 1 0 0), (8, o_istore 3 1), (9, o_i 0 1), (10, o_istore 4 2), (12, o_iload 4 2), (14, o_iload 3 1), (15, o_ic (fun a b => b ≤ a) 89), (18, o_lload 1 1), (19, o_iload 4 2), (21, o_call (xRun tb_T_charAt 3) 2 0 0), (24, o_istore 5 2), (26, o_iload 5 2), (28, o_i 8 2), (30, o_call (xRun tb_D_isClassDigit 2) 2 0 0), (33, o_if (fun a => a = 0) 74), (36, o_aload 0 1), (37, o_getf 3 1), (40, o_i 76 2), (42, o_callV (xRun tb_B_append 2) 2 1 0 0), (45, o_aload 0 1), (46, o_aload 0 1), (47, o_getf 3 0), (50, o_getf 1 0), (53, o_iload 5 2), (55, o_i 48 2), (57, o_ii (fun a b => a - b)), (58, o_laload), (59, o_callV (xRun tb_W_appendText 5) 3 1 0 0), (62, o_aload 0 1), (63, o_getf 3 1), (66, o_i 59 2), (68, o_callV (xRun tb_B_append 2) 2 1 0 0), (71, o_goto 83), (74, o_aload 0 1), (75, o_getf 3 1), (78, o_iload 5 2), (80, o_callV (xRun tb_B_append 2) 2 1 0 0), (83, o_iinc 4 1), (86, o_goto 12), (89, o_aload 0 1), (90, o_callV (xRun tb_W_closeText 4) 3 0 0 0), (93, o_vret)]
abbrev y_W_useDescriptor : MethodName := ⟨"NameMover$ClassWriter", "useDescriptor", "(J)V"⟩
abbrev rm_W_useDescriptor : Room := { frames := 3, cells := 0, slots := 0, locals := 69 }
abbrev ws_W_useDescriptor : List Cond := Cond.code y_W_useDescriptor prog_4_method_7_code 6 (none) :: xtt
set_option maxRecDepth 100000 in
theorem v_W_useDescriptor : ∀ q ∈ tb_W_useDescriptor, xSd (0, 0) x0 xCl "NameMover$ClassWriter" ws_W_useDescriptor prog_4_method_7_code 6 (none) rm_W_useDescriptor q :=
  xval (s_aload_n (f := 0) (by decide +kernel) rfl) (
  xval (s_callV (i := 91) c_W_openText (by decide +kernel) rfl (xtt_good tw_614) rfl (tc tw_611) (tc tw_613) (tc ts_9) (tc tw_4) ⟨by decide, by decide, by decide +kernel⟩ ⟨by decide, by decide, rfl, rfl, by decide, by decide⟩ x0_e) (
  xval (s_lload_n (f := 1) (by decide +kernel) rfl) (
  xval (s_callS (i := 100) c_T_length (by decide +kernel) rfl (xtt_good tw_272) (tc tw_623) (tc tw_271) (tc tw_7) ⟨by decide, by decide, by decide +kernel⟩ ⟨by decide, by decide, rfl, rfl, by decide, by decide⟩ x0_e) (
  xval (s_istore_n (f := 3) (by decide +kernel) rfl (by decide)) (
  xval (s_iconst (z := 0) (by decide +kernel) (by decide)) (
  xval (s_istore (by decide +kernel) (by decide)) (
  xval (s_iload (by decide +kernel)) (
  xval (s_iload_n (f := 3) (by decide +kernel) rfl) (
  xval (s_icge (z := 74) (by decide +kernel) (by decide)) (
  xval (s_lload_n (f := 1) (by decide +kernel) rfl) (
  xval (s_iload (by decide +kernel)) (
  xval (s_callS (i := 106) c_T_charAt (by decide +kernel) rfl (xtt_good tw_222) (tc tw_624) (tc tw_221) (tc tw_7) ⟨by decide, by decide, by decide +kernel⟩ ⟨by decide, by decide, rfl, rfl, by decide, by decide⟩ x0_e) (
  xval (s_istore (by decide +kernel) (by decide)) (
  xval (s_iload (by decide +kernel)) (
  xval (s_bipush (z := 8) (by decide +kernel) (by decide)) (
  xval (s_callS (i := 110) c_D_isClassDigit (by decide +kernel) rfl (xtt_good tw_431) (tc tw_654) (tc tw_430) (tc tw_14) ⟨by decide, by decide, by decide +kernel⟩ ⟨by decide, by decide, rfl, rfl, by decide, by decide⟩ x0_e) (
  xval (s_ifeq (z := 41) (by decide +kernel) (by decide)) (
  xval (s_aload_n (f := 0) (by decide +kernel) rfl) (
  xval (s_getf (i := 29) (by decide +kernel) rfl tin_W (by decide) (tc tw_110)) (
  xval (s_bipush (z := 76) (by decide +kernel) (by decide)) (
  xval (s_callV (i := 84) c_B_append (by decide +kernel) rfl (xtt_good tw_606) rfl (tc tw_603) (tc tw_604) (tc tw_605) (tc tw_3) ⟨by decide, by decide, by decide +kernel⟩ ⟨by decide, by decide, rfl, rfl, by decide, by decide⟩ x0_e) (
  xval (s_aload_n (f := 0) (by decide +kernel) rfl) (
  xval (s_aload_n (f := 0) (by decide +kernel) rfl) (
  xval (s_getf (i := 25) (by decide +kernel) rfl tin_W (by decide) (tc tw_109)) (
  xval (s_getf (i := 36) (by decide +kernel) rfl tin_S (by decide) (tc tw_34)) (
  xval (s_iload (by decide +kernel)) (
  xval (s_bipush (z := 48) (by decide +kernel) (by decide)) (
  xval (s_isub (by decide +kernel)) (
  xval (s_laload (by decide +kernel)) (
  xval (s_callV (i := 94) c_W_appendText (by decide +kernel) rfl (xtt_good tw_622) rfl (tc tw_619) (tc tw_621) (tc ts_10) (tc tw_4) ⟨by decide, by decide, by decide +kernel⟩ ⟨by decide, by decide, rfl, rfl, by decide, by decide⟩ x0_e) (
  xval (s_aload_n (f := 0) (by decide +kernel) rfl) (
  xval (s_getf (i := 29) (by decide +kernel) rfl tin_W (by decide) (tc tw_110)) (
  xval (s_bipush (z := 59) (by decide +kernel) (by decide)) (
  xval (s_callV (i := 84) c_B_append (by decide +kernel) rfl (xtt_good tw_606) rfl (tc tw_603) (tc tw_604) (tc tw_605) (tc tw_3) ⟨by decide, by decide, by decide +kernel⟩ ⟨by decide, by decide, rfl, rfl, by decide, by decide⟩ x0_e) (
  xval (s_goto (z := 12) (by decide +kernel) (by decide)) (
  xval (s_aload_n (f := 0) (by decide +kernel) rfl) (
  xval (s_getf (i := 29) (by decide +kernel) rfl tin_W (by decide) (tc tw_110)) (
  xval (s_iload (by decide +kernel)) (
  xval (s_callV (i := 84) c_B_append (by decide +kernel) rfl (xtt_good tw_606) rfl (tc tw_603) (tc tw_604) (tc tw_605) (tc tw_3) ⟨by decide, by decide, by decide +kernel⟩ ⟨by decide, by decide, rfl, rfl, by decide, by decide⟩ x0_e) (
  xval (s_iinc (z := 1) (by decide +kernel) (by decide) (by decide)) (
  xval (s_goto (z := (-74)) (by decide +kernel) (by decide)) (
  xval (s_aload_n (f := 0) (by decide +kernel) rfl) (
  xval (s_callV (i := 97) c_W_closeText (by decide +kernel) rfl (xtt_good tw_628) rfl (tc tw_625) (tc tw_627) (tc ts_11) (tc tw_4) ⟨by decide, by decide, by decide +kernel⟩ ⟨by decide, by decide, rfl, rfl, by decide, by decide⟩ x0_e) (
  xval (s_vret (by decide +kernel)) (
  xval_nil)))))))))))))))))))))))))))))))))))))))))))))
theorem c_W_useDescriptor : xMet xCl y_W_useDescriptor ws_W_useDescriptor rm_W_useDescriptor (xRun tb_W_useDescriptor 6) := xMet.of (by decide) rfl v_W_useDescriptor
def tb_W_end : xT := [(0, o_aload 0 1), (1, o_getf 3 1), (4, o_i 1 1), (5, o_aload 0 1), (6, o_getf 3 5), (9, o_callV (xRun tb_B_set 3) 2 2 0 0), (12, o_i 0 1), (13, o_istore 1 1), (14, o_iload 1 1), (15, o_aload 0 1), (16, o_getf 3 3), (19, o_ic (fun a b => b ≤ a) 41), (22, o_aload 0 1), (23, o_getf 3 1), (26, o_aload 0 1), (27, o_getf 3 2), (30, o_iload 1 1), (31, o_iaload), (32, o_callV (xRun tb_B_append 2) 2 1 0 0), (35, o_iinc 1 1), (38, o_goto 14), (41, o_vret)]
abbrev y_W_end : MethodName := ⟨"NameMover$ClassWriter", "end", "()V"⟩
abbrev rm_W_end : Room := { frames := 2, cells := 0, slots := 0, locals := 43 }
abbrev ws_W_end : List Cond := Cond.code y_W_end prog_4_method_4_code 2 (none) :: xtt
set_option maxRecDepth 100000 in
theorem v_W_end : ∀ q ∈ tb_W_end, xSd (0, 0) x0 xCl "NameMover$ClassWriter" ws_W_end prog_4_method_4_code 2 (none) rm_W_end q :=
  xval (s_aload_n (f := 0) (by decide +kernel) rfl) (
  xval (s_getf (i := 29) (by decide +kernel) rfl tin_W (by decide) (tc tw_110)) (
  xval (s_iconst (z := 1) (by decide +kernel) (by decide)) (
  xval (s_aload_n (f := 0) (by decide +kernel) rfl) (
  xval (s_getf (i := 22) (by decide +kernel) rfl tin_W (by decide) (tc tw_114)) (
  xval (s_callV (i := 87) c_B_set (by decide +kernel) rfl (xtt_good tw_632) rfl (tc tw_629) (tc tw_630) (tc tw_631) (tc tw_3) ⟨by decide, by decide, by decide +kernel⟩ ⟨by decide, by decide, rfl, rfl, by decide, by decide⟩ x0_e) (
  xval (s_iconst (z := 0) (by decide +kernel) (by decide)) (
  xval (s_istore_n (f := 1) (by decide +kernel) rfl (by decide)) (
  xval (s_iload_n (f := 1) (by decide +kernel) rfl) (
  xval (s_aload_n (f := 0) (by decide +kernel) rfl) (
  xval (s_getf (i := 15) (by decide +kernel) rfl tin_W (by decide) (tc tw_112)) (
  xval (s_icge (z := 22) (by decide +kernel) (by decide)) (
  xval (s_aload_n (f := 0) (by decide +kernel) rfl) (
  xval (s_getf (i := 29) (by decide +kernel) rfl tin_W (by decide) (tc tw_110)) (
  xval (s_aload_n (f := 0) (by decide +kernel) rfl) (
  xval (s_getf (i := 9) (by decide +kernel) rfl tin_W (by decide) (tc tw_111)) (
  xval (s_iload_n (f := 1) (by decide +kernel) rfl) (
  xval (s_iaload (by decide +kernel)) (
  xval (s_callV (i := 84) c_B_append (by decide +kernel) rfl (xtt_good tw_606) rfl (tc tw_603) (tc tw_604) (tc tw_605) (tc tw_3) ⟨by decide, by decide, by decide +kernel⟩ ⟨by decide, by decide, rfl, rfl, by decide, by decide⟩ x0_e) (
  xval (s_iinc (z := 1) (by decide +kernel) (by decide) (by decide)) (
  xval (s_goto (z := (-24)) (by decide +kernel) (by decide)) (
  xval (s_vret (by decide +kernel)) (
  xval_nil))))))))))))))))))))))
theorem c_W_end : xMet xCl y_W_end ws_W_end rm_W_end (xRun tb_W_end 2) := xMet.of (by decide) rfl v_W_end
def tb_W_compose : xT := [(0, o_aload 0 1), (1, o_callV (xRun tb_W_begin 1) 3 0 0 0), (4, o_aload 0 1), (5, o_aload 0 1), (6, o_getf 3 0), (9, o_getf 1 0), (12, o_iload 1 1), (13, o_laload), (14, o_callV (xRun tb_W_useText 3) 3 1 0 0), (17, o_aload 0 1), (18, o_getf 3 0), (21, o_getf 1 2), (24, o_iload 1 1), (25, o_iaload), (26, o_istore 2 1), (27, o_iload 2 1), (28, o_i (-1) 1), (29, o_icn (fun a b => a = b) 40), (32, o_aload 0 1), (33, o_i 0 1), (34, o_callV (xRun tb_W_useNumber 2) 3 1 0 0), (37, o_goto 53), (40, o_aload 0 1), (41, o_aload 0 1), (42, o_getf 3 0), (45, o_getf 1 0), (48, o_iload 2 1), (49, o_laload), (50, o_callV (xRun tb_W_useText 3) 3 1 0 0), (53, o_aload 0 1), (54, o_aload 0 1), (55, o_getf 3 0), (58, o_getf 1 3), (61, o_iload 1 1), (62, o_baload), (63, o_if (fun a => a = 0) 70), (66, o_i 1 1), (67, o_goto 71), (70, o_i 0 1), (71, o_callV (xRun tb_W_useNumber 2) 3 1 0 0), (74, o_aload 0 1), (75, o_aload 0 1), (76, o_getf 3 0), (79, o_getf 1 4), (82, o_iload 1 1), (83, o_iaload), (84, o_callV (xRun tb_W_useNumber 2) 3 1 0 0), (87, o_i 0 1), (88, o_istore 3 1), (89, o_iload 3 1), (90, o_aload 0 1), (91, o_getf 3 0), (94, o_getf 1 4), (97, o_iload 1 1), (98, o_iaload), (99, o_ic (fun a b => b ≤ a) 165), (102, o_iload 1 1), (103, o_iload 3 1), (104, o_call (xRun tb_S_number 2) 2 0 0), (107, o_istore 4 2), (109, o_aload 0 1), (110, o_aload 0 1), (111, o_getf 3 0), (114, o_getf 1 6), (117, o_iload 4 2), (119, o_laload), (120, o_callV (xRun tb_W_useText 3) 3 1 0 0), (123, o_aload 0 1), (124, o_aload 0 1), (125, o_getf 3 0), (128, o_getf 1 8), (131, o_iload 4 2), (133, o_laload), (134, o_callV (xRun tb_W_useDescriptor 6) 3 1 0 0), (137, o_aload 0 1), (138, o_aload 0 1), (139, o_getf 3 0), (142, o_getf 1 9), (145, o_iload 4 2), (147, o_baload), (148, o_if (fun a => a = 0) 155), (151, o_i 1 1), (152, o_goto 156), (155, o_i 0 1), (156, o_callV (xRun tb_W_useNumber 2) 3 1 0 0), (159, o_iinc 3 1), (162, o_goto 89), (165, o_aload 0 1), (166, o_callV (xRun tb_W_end 2) 3 0 0 0), (169, o_vret)]
abbrev y_W_compose : MethodName := ⟨"NameMover$ClassWriter", "compose", "(I)V"⟩
abbrev rm_W_compose : Room := { frames := 4, cells := 0, slots := 0, locals := 94 }
abbrev ws_W_compose : List Cond := Cond.code y_W_compose prog_4_method_2_code 5 (none) :: xtt
set_option maxRecDepth 100000 in
theorem v_W_compose : ∀ q ∈ tb_W_compose, xSd (0, 0) x0 xCl "NameMover$ClassWriter" ws_W_compose prog_4_method_2_code 5 (none) rm_W_compose q :=
  xval (s_aload_n (f := 0) (by decide +kernel) rfl) (
  xval (s_callV (i := 33) c_W_begin (by decide +kernel) rfl (xtt_good tw_592) rfl (tc tw_589) (tc tw_591) (tc ts_7) (tc tw_4) ⟨by decide, by decide, by decide +kernel⟩ ⟨by decide, by decide, rfl, rfl, by decide, by decide⟩ x0_e) (
  xval (s_aload_n (f := 0) (by decide +kernel) rfl) (
  xval (s_aload_n (f := 0) (by decide +kernel) rfl) (
  xval (s_getf (i := 25) (by decide +kernel) rfl tin_W (by decide) (tc tw_109)) (
  xval (s_getf (i := 36) (by decide +kernel) rfl tin_S (by decide) (tc tw_34)) (
  xval (s_iload_n (f := 1) (by decide +kernel) rfl) (
  xval (s_laload (by decide +kernel)) (
  xval (s_callV (i := 42) c_W_useText (by decide +kernel) rfl (xtt_good tw_610) rfl (tc tw_607) (tc tw_609) (tc ts_8) (tc tw_4) ⟨by decide, by decide, by decide +kernel⟩ ⟨by decide, by decide, rfl, rfl, by decide, by decide⟩ x0_e) (
  xval (s_aload_n (f := 0) (by decide +kernel) rfl) (
  xval (s_getf (i := 25) (by decide +kernel) rfl tin_W (by decide) (tc tw_109)) (
  xval (s_getf (i := 46) (by decide +kernel) rfl tin_S (by decide) (tc tw_41)) (
  xval (s_iload_n (f := 1) (by decide +kernel) rfl) (
  xval (s_iaload (by decide +kernel)) (
  xval (s_istore_n (f := 2) (by decide +kernel) rfl (by decide)) (
  xval (s_iload_n (f := 2) (by decide +kernel) rfl) (
  xval (s_iconst (z := (-1)) (by decide +kernel) (by decide)) (
  xval (s_icne (z := 11) (by decide +kernel) (by decide)) (
  xval (s_aload_n (f := 0) (by decide +kernel) rfl) (
  xval (s_iconst (z := 0) (by decide +kernel) (by decide)) (
  xval (s_callV (i := 49) c_W_useNumber (by decide +kernel) rfl (xtt_good tw_648) rfl (tc tw_645) (tc tw_647) (tc ts_12) (tc tw_4) ⟨by decide, by decide, by decide +kernel⟩ ⟨by decide, by decide, rfl, rfl, by decide, by decide⟩ x0_e) (
  xval (s_goto (z := 16) (by decide +kernel) (by decide)) (
  xval (s_aload_n (f := 0) (by decide +kernel) rfl) (
  xval (s_aload_n (f := 0) (by decide +kernel) rfl) (
  xval (s_getf (i := 25) (by decide +kernel) rfl tin_W (by decide) (tc tw_109)) (
  xval (s_getf (i := 36) (by decide +kernel) rfl tin_S (by decide) (tc tw_34)) (
  xval (s_iload_n (f := 2) (by decide +kernel) rfl) (
  xval (s_laload (by decide +kernel)) (
  xval (s_callV (i := 42) c_W_useText (by decide +kernel) rfl (xtt_good tw_610) rfl (tc tw_607) (tc tw_609) (tc ts_8) (tc tw_4) ⟨by decide, by decide, by decide +kernel⟩ ⟨by decide, by decide, rfl, rfl, by decide, by decide⟩ x0_e) (
  xval (s_aload_n (f := 0) (by decide +kernel) rfl) (
  xval (s_aload_n (f := 0) (by decide +kernel) rfl) (
  xval (s_getf (i := 25) (by decide +kernel) rfl tin_W (by decide) (tc tw_109)) (
  xval (s_getf (i := 53) (by decide +kernel) rfl tin_S (by decide) (tc tw_43)) (
  xval (s_iload_n (f := 1) (by decide +kernel) rfl) (
  xval (s_baload (by decide +kernel)) (
  xval (s_ifeq (z := 7) (by decide +kernel) (by decide)) (
  xval (s_iconst (z := 1) (by decide +kernel) (by decide)) (
  xval (s_goto (z := 4) (by decide +kernel) (by decide)) (
  xval (s_iconst (z := 0) (by decide +kernel) (by decide)) (
  xval (s_callV (i := 49) c_W_useNumber (by decide +kernel) rfl (xtt_good tw_648) rfl (tc tw_645) (tc tw_647) (tc ts_12) (tc tw_4) ⟨by decide, by decide, by decide +kernel⟩ ⟨by decide, by decide, rfl, rfl, by decide, by decide⟩ x0_e) (
  xval (s_aload_n (f := 0) (by decide +kernel) rfl) (
  xval (s_aload_n (f := 0) (by decide +kernel) rfl) (
  xval (s_getf (i := 25) (by decide +kernel) rfl tin_W (by decide) (tc tw_109)) (
  xval (s_getf (i := 57) (by decide +kernel) rfl tin_S (by decide) (tc tw_46)) (
  xval (s_iload_n (f := 1) (by decide +kernel) rfl) (
  xval (s_iaload (by decide +kernel)) (
  xval (s_callV (i := 49) c_W_useNumber (by decide +kernel) rfl (xtt_good tw_648) rfl (tc tw_645) (tc tw_647) (tc ts_12) (tc tw_4) ⟨by decide, by decide, by decide +kernel⟩ ⟨by decide, by decide, rfl, rfl, by decide, by decide⟩ x0_e) (
  xval (s_iconst (z := 0) (by decide +kernel) (by decide)) (
  xval (s_istore_n (f := 3) (by decide +kernel) rfl (by decide)) (
  xval (s_iload_n (f := 3) (by decide +kernel) rfl) (
  xval (s_aload_n (f := 0) (by decide +kernel) rfl) (
  xval (s_getf (i := 25) (by decide +kernel) rfl tin_W (by decide) (tc tw_109)) (
  xval (s_getf (i := 57) (by decide +kernel) rfl tin_S (by decide) (tc tw_46)) (
  xval (s_iload_n (f := 1) (by decide +kernel) rfl) (
  xval (s_iaload (by decide +kernel)) (
  xval (s_icge (z := 66) (by decide +kernel) (by decide)) (
  xval (s_iload_n (f := 1) (by decide +kernel) rfl) (
  xval (s_iload_n (f := 3) (by decide +kernel) rfl) (
  xval (s_callS (i := 60) c_S_number (by decide +kernel) rfl (xtt_good tw_446) (tc tw_649) (tc tw_445) (tc tw_2) ⟨by decide, by decide, by decide +kernel⟩ ⟨by decide, by decide, rfl, rfl, by decide, by decide⟩ x0_e) (
  xval (s_istore (by decide +kernel) (by decide)) (
  xval (s_aload_n (f := 0) (by decide +kernel) rfl) (
  xval (s_aload_n (f := 0) (by decide +kernel) rfl) (
  xval (s_getf (i := 25) (by decide +kernel) rfl tin_W (by decide) (tc tw_109)) (
  xval (s_getf (i := 64) (by decide +kernel) rfl tin_S (by decide) (tc tw_49)) (
  xval (s_iload (by decide +kernel)) (
  xval (s_laload (by decide +kernel)) (
  xval (s_callV (i := 42) c_W_useText (by decide +kernel) rfl (xtt_good tw_610) rfl (tc tw_607) (tc tw_609) (tc ts_8) (tc tw_4) ⟨by decide, by decide, by decide +kernel⟩ ⟨by decide, by decide, rfl, rfl, by decide, by decide⟩ x0_e) (
  xval (s_aload_n (f := 0) (by decide +kernel) rfl) (
  xval (s_aload_n (f := 0) (by decide +kernel) rfl) (
  xval (s_getf (i := 25) (by decide +kernel) rfl tin_W (by decide) (tc tw_109)) (
  xval (s_getf (i := 67) (by decide +kernel) rfl tin_S (by decide) (tc tw_56)) (
  xval (s_iload (by decide +kernel)) (
  xval (s_laload (by decide +kernel)) (
  xval (s_callV (i := 70) c_W_useDescriptor (by decide +kernel) rfl (xtt_good tw_653) rfl (tc tw_650) (tc tw_652) (tc ts_13) (tc tw_4) ⟨by decide, by decide, by decide +kernel⟩ ⟨by decide, by decide, rfl, rfl, by decide, by decide⟩ x0_e) (
  xval (s_aload_n (f := 0) (by decide +kernel) rfl) (
  xval (s_aload_n (f := 0) (by decide +kernel) rfl) (
  xval (s_getf (i := 25) (by decide +kernel) rfl tin_W (by decide) (tc tw_109)) (
  xval (s_getf (i := 73) (by decide +kernel) rfl tin_S (by decide) (tc tw_59)) (
  xval (s_iload (by decide +kernel)) (
  xval (s_baload (by decide +kernel)) (
  xval (s_ifeq (z := 7) (by decide +kernel) (by decide)) (
  xval (s_iconst (z := 1) (by decide +kernel) (by decide)) (
  xval (s_goto (z := 4) (by decide +kernel) (by decide)) (
  xval (s_iconst (z := 0) (by decide +kernel) (by decide)) (
  xval (s_callV (i := 49) c_W_useNumber (by decide +kernel) rfl (xtt_good tw_648) rfl (tc tw_645) (tc tw_647) (tc ts_12) (tc tw_4) ⟨by decide, by decide, by decide +kernel⟩ ⟨by decide, by decide, rfl, rfl, by decide, by decide⟩ x0_e) (
  xval (s_iinc (z := 1) (by decide +kernel) (by decide) (by decide)) (
  xval (s_goto (z := (-73)) (by decide +kernel) (by decide)) (
  xval (s_aload_n (f := 0) (by decide +kernel) rfl) (
  xval (s_callV (i := 76) c_W_end (by decide +kernel) rfl (xtt_good tw_658) rfl (tc tw_655) (tc tw_657) (tc ts_14) (tc tw_4) ⟨by decide, by decide, by decide +kernel⟩ ⟨by decide, by decide, rfl, rfl, by decide, by decide⟩ x0_e) (
  xval (s_vret (by decide +kernel)) (
  xval_nil))))))))))))))))))))))))))))))))))))))))))))))))))))))))))))))))))))))))))))))))))))))))))
theorem c_W_compose : xMet xCl y_W_compose ws_W_compose rm_W_compose (xRun tb_W_compose 5) := xMet.of (by decide) rfl v_W_compose
end
section
def tb_N_write : xT := [(0, o_aload 0 1), (1, o_iload 1 1), (2, o_callV (xRun tb_N_requireClass 2) 0 1 1 1), (5, o_aload 0 1), (6, o_getf 0 3), (9, o_iload 1 1), (10, o_callV (xRun tb_W_compose 5) 3 1 1 0), (13, o_aload 0 1), (14, o_getf 0 1), (17, o_callV (xRun tb_B_size 1) 2 0 1 0), (20, o_iret)]
abbrev y_N_write : MethodName := ⟨"NameMover", "write", "(I)I"⟩
abbrev rm_N_write : Room := { frames := 7, cells := 1, slots := 6, locals := 118 }
abbrev ws_N_write : List Cond := Cond.code y_N_write prog_1_method_14_code 2 (some .int) :: xtt
set_option maxRecDepth 100000 in
theorem v_N_write : ∀ q ∈ tb_N_write, xSd (0, 0) x0 xCl "NameMover" ws_N_write prog_1_method_14_code 2 (some .int) rm_N_write q :=
  xval (s_aload_n (f := 0) (by decide +kernel) rfl) (
  xval (s_iload_n (f := 1) (by decide +kernel) rfl) (
  xval (s_callV (i := 95) c_N_requireClass (by decide +kernel) rfl (xtt_good tw_412) rfl (tc tw_409) (tc tw_411) (tc ts_1) (tc tw_1) ⟨by decide, by decide, by decide +kernel⟩ ⟨by decide, by decide, rfl, rfl, by decide, by decide⟩ x0_e) (
  xval (s_aload_n (f := 0) (by decide +kernel) rfl) (
  xval (s_getf (i := 31) (by decide +kernel) rfl tin_N (by decide) (tc tw_153)) (
  xval (s_iload_n (f := 1) (by decide +kernel) rfl) (
  xval (s_callV (i := 186) c_W_compose (by decide +kernel) rfl (xtt_good tw_588) rfl (tc tw_585) (tc tw_586) (tc tw_587) (tc tw_4) ⟨by decide, by decide, by decide +kernel⟩ ⟨by decide, by decide, rfl, rfl, by decide, by decide⟩ x0_e) (
  xval (s_aload_n (f := 0) (by decide +kernel) rfl) (
  xval (s_getf (i := 19) (by decide +kernel) rfl tin_N (by decide) (tc tw_151)) (
  xval (s_callV (i := 189) c_B_size (by decide +kernel) rfl (xtt_good tw_618) rfl (tc tw_659) (tc tw_616) (tc tw_617) (tc tw_3) ⟨by decide, by decide, by decide +kernel⟩ ⟨by decide, by decide, rfl, rfl, by decide, by decide⟩ x0_e) (
  xval (s_iret (by decide +kernel)) (
  xval_nil)))))))))))
theorem c_N_write : xMet xCl y_N_write ws_N_write rm_N_write (xRun tb_N_write 2) := xMet.of (by decide) rfl v_N_write
def tb_N_requireByte : xT := [(0, o_aload 0 1), (1, o_getf 0 1), (4, o_iload 1 1), (5, o_callV (xRun tb_B_has 2) 2 1 1 0), (8, o_ifn (fun a => a = 0) 21), (11, o_throw 1 1), (21, o_vret)]
abbrev y_N_requireByte : MethodName := ⟨"NameMover", "requireByte", "(I)V"⟩
abbrev rm_N_requireByte : Room := { frames := 6, cells := 1, slots := 6, locals := 82 }
abbrev ws_N_requireByte : List Cond := Cond.code y_N_requireByte prog_1_method_21_code 2 (none) :: xtt
set_option maxRecDepth 100000 in
theorem v_N_requireByte : ∀ q ∈ tb_N_requireByte, xSd (0, 0) x0 xCl "NameMover" ws_N_requireByte prog_1_method_21_code 2 (none) rm_N_requireByte q :=
  xval (s_aload_n (f := 0) (by decide +kernel) rfl) (
  xval (s_getf (i := 19) (by decide +kernel) rfl tin_N (by decide) (tc tw_151)) (
  xval (s_iload_n (f := 1) (by decide +kernel) rfl) (
  xval (s_callV (i := 223) c_B_has (by decide +kernel) rfl (xtt_good tw_636) rfl (tc tw_671) (tc tw_634) (tc tw_635) (tc tw_3) ⟨by decide, by decide, by decide +kernel⟩ ⟨by decide, by decide, rfl, rfl, by decide, by decide⟩ x0_e) (
  xval (s_ifne (z := 13) (by decide +kernel) (by decide)) (
  xval (s_throw (i := 62) (ik := 226) (ic := 66) (j := 7) (bs := prog_15_method_2_code) (tx := "no such byte") (by decide +kernel) (by decide +kernel) (by decide +kernel) (by decide +kernel) (by decide +kernel) (tc tw_349) (tc tw_350) (tc tw_12) (tc tw_672) (by decide +kernel) (by decide +kernel) (by decide +kernel) (by decide +kernel) (by decide +kernel) (tow_1 (tc tw_359)) ⟨by decide, by decide, by decide, by decide⟩ x0_e) (
  xval (s_vret (by decide +kernel)) (
  xval_nil)))))))
theorem c_N_requireByte : xMet xCl y_N_requireByte ws_N_requireByte rm_N_requireByte (xRun tb_N_requireByte 2) := xMet.of (by decide) rfl v_N_requireByte
def tb_N_byteAt : xT := [(0, o_aload 0 1), (1, o_iload 1 1), (2, o_callV (xRun tb_N_requireByte 2) 0 1 1 1), (5, o_aload 0 1), (6, o_getf 0 1), (9, o_iload 1 1), (10, o_callV (xRun tb_B_get 2) 2 1 1 0), (13, o_iret)]
abbrev y_N_byteAt : MethodName := ⟨"NameMover", "byteAt", "(I)I"⟩
abbrev rm_N_byteAt : Room := { frames := 7, cells := 1, slots := 6, locals := 103 }
abbrev ws_N_byteAt : List Cond := Cond.code y_N_byteAt prog_1_method_15_code 2 (some .int) :: xtt
set_option maxRecDepth 100000 in
theorem v_N_byteAt : ∀ q ∈ tb_N_byteAt, xSd (0, 0) x0 xCl "NameMover" ws_N_byteAt prog_1_method_15_code 2 (some .int) rm_N_byteAt q :=
  xval (s_aload_n (f := 0) (by decide +kernel) rfl) (
  xval (s_iload_n (f := 1) (by decide +kernel) rfl) (
  xval (s_callV (i := 192) c_N_requireByte (by decide +kernel) rfl (xtt_good tw_670) rfl (tc tw_667) (tc tw_669) (tc ts_15) (tc tw_1) ⟨by decide, by decide, by decide +kernel⟩ ⟨by decide, by decide, rfl, rfl, by decide, by decide⟩ x0_e) (
  xval (s_aload_n (f := 0) (by decide +kernel) rfl) (
  xval (s_getf (i := 19) (by decide +kernel) rfl tin_N (by decide) (tc tw_151)) (
  xval (s_iload_n (f := 1) (by decide +kernel) rfl) (
  xval (s_callV (i := 195) c_B_get (by decide +kernel) rfl (xtt_good tw_644) rfl (tc tw_673) (tc tw_642) (tc tw_643) (tc tw_3) ⟨by decide, by decide, by decide +kernel⟩ ⟨by decide, by decide, rfl, rfl, by decide, by decide⟩ x0_e) (
  xval (s_iret (by decide +kernel)) (
  xval_nil))))))))
theorem c_N_byteAt : xMet xCl y_N_byteAt ws_N_byteAt rm_N_byteAt (xRun tb_N_byteAt 2) := xMet.of (by decide) rfl v_N_byteAt
def tb_N_poke : xT := [(0, o_aload 0 1), (1, o_iload 1 1), (2, o_callV (xRun tb_N_requireByte 2) 0 1 1 1), (5, o_iload 2 1), (6, o_if (fun a => a < 0) 16), (9, o_iload 2 1), (10, o_i 255 3), (13, o_ic (fun a b => a ≤ b) 26), (16, o_throw 0 1), (26, o_aload 0 1), (27, o_getf 0 1), (30, o_iload 1 1), (31, o_iload 2 1), (32, o_callV (xRun tb_B_set 3) 2 2 1 0), (35, o_vret)]
abbrev y_N_poke : MethodName := ⟨"NameMover", "poke", "(II)V"⟩
abbrev rm_N_poke : Room := { frames := 7, cells := 1, slots := 6, locals := 103 }
abbrev ws_N_poke : List Cond := Cond.code y_N_poke prog_1_method_16_code 3 (none) :: xtt
set_option maxRecDepth 100000 in
theorem v_N_poke : ∀ q ∈ tb_N_poke, xSd (0, 0) x0 xCl "NameMover" ws_N_poke prog_1_method_16_code 3 (none) rm_N_poke q :=
  xval (s_aload_n (f := 0) (by decide +kernel) rfl) (
  xval (s_iload_n (f := 1) (by decide +kernel) rfl) (
  xval (s_callV (i := 192) c_N_requireByte (by decide +kernel) rfl (xtt_good tw_670) rfl (tc tw_667) (tc tw_669) (tc ts_15) (tc tw_1) ⟨by decide, by decide, by decide +kernel⟩ ⟨by decide, by decide, rfl, rfl, by decide, by decide⟩ x0_e) (
  xval (s_iload_n (f := 2) (by decide +kernel) rfl) (
  xval (s_iflt (z := 10) (by decide +kernel) (by decide)) (
  xval (s_iload_n (f := 2) (by decide +kernel) rfl) (
  xval (s_sipush (z := 255) (by decide +kernel) (by decide)) (
  xval (s_icle (z := 13) (by decide +kernel) (by decide)) (
  xval (s_throw (i := 51) (ik := 199) (ic := 55) (j := 7) (bs := prog_13_method_2_code) (tx := "no byte") (by decide +kernel) (by decide +kernel) (by decide +kernel) (by decide +kernel) (by decide +kernel) (tc tw_279) (tc tw_280) (tc tw_11) (tc tw_681) (by decide +kernel) (by decide +kernel) (by decide +kernel) (by decide +kernel) (by decide +kernel) (tow_0 (tc tw_322)) ⟨by decide, by decide, by decide, by decide⟩ x0_e) (
  xval (s_aload_n (f := 0) (by decide +kernel) rfl) (
  xval (s_getf (i := 19) (by decide +kernel) rfl tin_N (by decide) (tc tw_151)) (
  xval (s_iload_n (f := 1) (by decide +kernel) rfl) (
  xval (s_iload_n (f := 2) (by decide +kernel) rfl) (
  xval (s_callV (i := 201) c_B_set (by decide +kernel) rfl (xtt_good tw_632) rfl (tc tw_682) (tc tw_630) (tc tw_631) (tc tw_3) ⟨by decide, by decide, by decide +kernel⟩ ⟨by decide, by decide, rfl, rfl, by decide, by decide⟩ x0_e) (
  xval (s_vret (by decide +kernel)) (
  xval_nil)))))))))))))))
theorem c_N_poke : xMet xCl y_N_poke ws_N_poke rm_N_poke (xRun tb_N_poke 3) := xMet.of (by decide) rfl v_N_poke
def tb_R_skipPool : xT := [(0, o_aload 0 1), (1, o_aload 0 1), (2, o_getf 4 1), (5, o_i 1 1), (6, o_callV (xRun tb_B_get 2) 2 1 0 0), (9, o_puti 4 3), (12, o_aload 0 1), (13, o_i 2 1), (14, o_puti 4 4), (17, o_aload 0 1), (18, o_getf 4 3), (21, o_i 14 2), (23, o_ic (fun a b => a ≤ b) 28), (26, o_i 0 1), (27, o_zret), (28, o_i 1 1), (29, o_istore 1 1), (30, o_iload 1 1), (31, o_aload 0 1), (32, o_getf 4 3), (35, o_ic (fun a b => b < a) 76), (38, o_aload 0 1), (39, o_getf 4 2), (42, o_iload 1 1), (43, o_aload 0 1), (44, o_getf 4 4), (47, o_iastore), (48, o_aload 0 1), (49, o_dup), (50, o_getf 4 4), (53, o_i 1 1), (54, o_aload 0 1), (55, o_getf 4 1), (58, o_aload 0 1), (59, o_getf 4 4), (62, o_callV (xRun tb_B_get 2) 2 1 0 0), (65, o_ii (fun a b => a + b)), (66, o_ii (fun a b => a + b)), (67, o_puti 4 4), (70, o_iinc 1 1), (73, o_goto 30), (76, o_aload 0 1), (77, o_getf 4 4), (80, o_aload 0 1), (81, o_getf 4 1), (84, o_callV (xRun tb_B_size 1) 2 0 0 0), (87, o_ic (fun a b => b < a) 94), (90, o_i 1 1), (91, o_goto 95), (94, o_i 0 1), (95, o_zret)]
abbrev y_R_skipPool : MethodName := ⟨"NameMover$ClassReader", "skipPool", "()Z"⟩
abbrev rm_R_skipPool : Room := { frames := 1, cells := 0, slots := 0, locals := 21 }
abbrev ws_R_skipPool : List Cond := Cond.code y_R_skipPool prog_3_method_4_code 2 (some .boolean) :: xtt
set_option maxRecDepth 100000 in
theorem v_R_skipPool : ∀ q ∈ tb_R_skipPool, xSd (0, 0) x0 xCl "NameMover$ClassReader" ws_R_skipPool prog_3_method_4_code 2 (some .boolean) rm_R_skipPool q :=
  xval (s_aload_n (f := 0) (by decide +kernel) rfl) (
  xval (s_aload_n (f := 0) (by decide +kernel) rfl) (
  xval (s_getf (i := 26) (by decide +kernel) rfl tin_R (by decide) (tc tw_135)) (
  xval (s_iconst (z := 1) (by decide +kernel) (by decide)) (
  xval (s_callV (i := 89) c_B_get (by decide +kernel) rfl (xtt_good tw_644) rfl (tc tw_699) (tc tw_642) (tc tw_643) (tc tw_3) ⟨by decide, by decide, by decide +kernel⟩ ⟨by decide, by decide, rfl, rfl, by decide, by decide⟩ x0_e) (
  xval (s_puti (i := 15) (by decide +kernel) rfl tin_R (by decide) (tc tw_137) tR tR_ok nR rfl (by decide +kernel)) (
  xval (s_aload_n (f := 0) (by decide +kernel) rfl) (
  xval (s_iconst (z := 2) (by decide +kernel) (by decide)) (
  xval (s_puti (i := 19) (by decide +kernel) rfl tin_R (by decide) (tc tw_138) tR tR_ok nR rfl (by decide +kernel)) (
  xval (s_aload_n (f := 0) (by decide +kernel) rfl) (
  xval (s_getf (i := 15) (by decide +kernel) rfl tin_R (by decide) (tc tw_137)) (
  xval (s_bipush (z := 14) (by decide +kernel) (by decide)) (
  xval (s_icle (z := 5) (by decide +kernel) (by decide)) (
  xval (s_iconst (z := 0) (by decide +kernel) (by decide)) (
  xval (s_zret (by decide +kernel)) (
  xval (s_iconst (z := 1) (by decide +kernel) (by decide)) (
  xval (s_istore_n (f := 1) (by decide +kernel) rfl (by decide)) (
  xval (s_iload_n (f := 1) (by decide +kernel) rfl) (
  xval (s_aload_n (f := 0) (by decide +kernel) rfl) (
  xval (s_getf (i := 15) (by decide +kernel) rfl tin_R (by decide) (tc tw_137)) (
  xval (s_icgt (z := 41) (by decide +kernel) (by decide)) (
  xval (s_aload_n (f := 0) (by decide +kernel) rfl) (
  xval (s_getf (i := 9) (by decide +kernel) rfl tin_R (by decide) (tc tw_136)) (
  xval (s_iload_n (f := 1) (by decide +kernel) rfl) (
  xval (s_aload_n (f := 0) (by decide +kernel) rfl) (
  xval (s_getf (i := 19) (by decide +kernel) rfl tin_R (by decide) (tc tw_138)) (
  xval (s_iastore (by decide +kernel)) (
  xval (s_aload_n (f := 0) (by decide +kernel) rfl) (
  xval (s_dup (by decide +kernel)) (
  xval (s_getf (i := 19) (by decide +kernel) rfl tin_R (by decide) (tc tw_138)) (
  xval (s_iconst (z := 1) (by decide +kernel) (by decide)) (
  xval (s_aload_n (f := 0) (by decide +kernel) rfl) (
  xval (s_getf (i := 26) (by decide +kernel) rfl tin_R (by decide) (tc tw_135)) (
  xval (s_aload_n (f := 0) (by decide +kernel) rfl) (
  xval (s_getf (i := 19) (by decide +kernel) rfl tin_R (by decide) (tc tw_138)) (
  xval (s_callV (i := 89) c_B_get (by decide +kernel) rfl (xtt_good tw_644) rfl (tc tw_699) (tc tw_642) (tc tw_643) (tc tw_3) ⟨by decide, by decide, by decide +kernel⟩ ⟨by decide, by decide, rfl, rfl, by decide, by decide⟩ x0_e) (
  xval (s_iadd (by decide +kernel)) (
  xval (s_iadd (by decide +kernel)) (
  xval (s_puti (i := 19) (by decide +kernel) rfl tin_R (by decide) (tc tw_138) tR tR_ok nR rfl (by decide +kernel)) (
  xval (s_iinc (z := 1) (by decide +kernel) (by decide) (by decide)) (
  xval (s_goto (z := (-43)) (by decide +kernel) (by decide)) (
  xval (s_aload_n (f := 0) (by decide +kernel) rfl) (
  xval (s_getf (i := 19) (by decide +kernel) rfl tin_R (by decide) (tc tw_138)) (
  xval (s_aload_n (f := 0) (by decide +kernel) rfl) (
  xval (s_getf (i := 26) (by decide +kernel) rfl tin_R (by decide) (tc tw_135)) (
  xval (s_callV (i := 95) c_B_size (by decide +kernel) rfl (xtt_good tw_618) rfl (tc tw_700) (tc tw_616) (tc tw_617) (tc tw_3) ⟨by decide, by decide, by decide +kernel⟩ ⟨by decide, by decide, rfl, rfl, by decide, by decide⟩ x0_e) (
  xval (s_icgt (z := 7) (by decide +kernel) (by decide)) (
  xval (s_iconst (z := 1) (by decide +kernel) (by decide)) (
  xval (s_goto (z := 4) (by decide +kernel) (by decide)) (
  xval (s_iconst (z := 0) (by decide +kernel) (by decide)) (
  xval (s_zret (by decide +kernel)) (
  xval_nil)))))))))))))))))))))))))))))))))))))))))))))))))))
theorem c_R_skipPool : xMet xCl y_R_skipPool ws_R_skipPool rm_R_skipPool (xRun tb_R_skipPool 2) := xMet.of (by decide) rfl v_R_skipPool
def tb_R_nextByte : xT := [(0, o_aload 0 1), (1, o_dup), (2, o_getf 4 4), (5, o_i 1 1), (6, o_ii (fun a b => a + b)), (7, o_puti 4 4), (10, o_aload 0 1), (11, o_getf 4 1), (14, o_aload 0 1), (15, o_getf 4 4), (18, o_i 1 1), (19, o_ii (fun a b => a - b)), (20, o_callV (xRun tb_B_get 2) 2 1 0 0), (23, o_iret)]
abbrev y_R_nextByte : MethodName := ⟨"NameMover$ClassReader", "nextByte", "()I"⟩
abbrev rm_R_nextByte : Room := { frames := 1, cells := 0, slots := 0, locals := 21 }
abbrev ws_R_nextByte : List Cond := Cond.code y_R_nextByte prog_3_method_5_code 1 (some .int) :: xtt
set_option maxRecDepth 100000 in
theorem v_R_nextByte : ∀ q ∈ tb_R_nextByte, xSd (0, 0) x0 xCl "NameMover$ClassReader" ws_R_nextByte prog_3_method_5_code 1 (some .int) rm_R_nextByte q :=
  xval (s_aload_n (f := 0) (by decide +kernel) rfl) (
  xval (s_dup (by decide +kernel)) (
  xval (s_getf (i := 19) (by decide +kernel) rfl tin_R (by decide) (tc tw_138)) (
  xval (s_iconst (z := 1) (by decide +kernel) (by decide)) (
  xval (s_iadd (by decide +kernel)) (
  xval (s_puti (i := 19) (by decide +kernel) rfl tin_R (by decide) (tc tw_138) tR tR_ok nR rfl (by decide +kernel)) (
  xval (s_aload_n (f := 0) (by decide +kernel) rfl) (
  xval (s_getf (i := 26) (by decide +kernel) rfl tin_R (by decide) (tc tw_135)) (
  xval (s_aload_n (f := 0) (by decide +kernel) rfl) (
  xval (s_getf (i := 19) (by decide +kernel) rfl tin_R (by decide) (tc tw_138)) (
  xval (s_iconst (z := 1) (by decide +kernel) (by decide)) (
  xval (s_isub (by decide +kernel)) (
  xval (s_callV (i := 89) c_B_get (by decide +kernel) rfl (xtt_good tw_644) rfl (tc tw_699) (tc tw_642) (tc tw_643) (tc tw_3) ⟨by decide, by decide, by decide +kernel⟩ ⟨by decide, by decide, rfl, rfl, by decide, by decide⟩ x0_e) (
  xval (s_iret (by decide +kernel)) (
  xval_nil))))))))))))))
theorem c_R_nextByte : xMet xCl y_R_nextByte ws_R_nextByte rm_R_nextByte (xRun tb_R_nextByte 1) := xMet.of (by decide) rfl v_R_nextByte
def tb_R_nextText : xT := [(0, o_aload 0 1), (1, o_callV (xRun tb_R_nextByte 1) 4 0 0 0), (4, o_istore 1 1), (5, o_iload 1 1), (6, o_aload 0 1), (7, o_getf 4 3), (10, o_ic (fun a b => b < a) 17), (13, o_iload 1 1), (14, o_goto 18), (17, o_i 0 1), (18, o_iret)]
abbrev y_R_nextText : MethodName := ⟨"NameMover$ClassReader", "nextText", "()I"⟩
abbrev rm_R_nextText : Room := { frames := 2, cells := 0, slots := 0, locals := 41 }
abbrev ws_R_nextText : List Cond := Cond.code y_R_nextText prog_3_method_6_code 2 (some .int) :: xtt
set_option maxRecDepth 100000 in
theorem v_R_nextText : ∀ q ∈ tb_R_nextText, xSd (0, 0) x0 xCl "NameMover$ClassReader" ws_R_nextText prog_3_method_6_code 2 (some .int) rm_R_nextText q :=
  xval (s_aload_n (f := 0) (by decide +kernel) rfl) (
  xval (s_callV (i := 60) c_R_nextByte (by decide +kernel) rfl (xtt_good tw_708) rfl (tc tw_705) (tc tw_707) (tc ts_18) (tc tw_5) ⟨by decide, by decide, by decide +kernel⟩ ⟨by decide, by decide, rfl, rfl, by decide, by decide⟩ x0_e) (
  xval (s_istore_n (f := 1) (by decide +kernel) rfl (by decide)) (
  xval (s_iload_n (f := 1) (by decide +kernel) rfl) (
  xval (s_aload_n (f := 0) (by decide +kernel) rfl) (
  xval (s_getf (i := 15) (by decide +kernel) rfl tin_R (by decide) (tc tw_137)) (
  xval (s_icgt (z := 7) (by decide +kernel) (by decide)) (
  xval (s_iload_n (f := 1) (by decide +kernel) rfl) (
  xval (s_goto (z := 4) (by decide +kernel) (by decide)) (
  xval (s_iconst (z := 0) (by decide +kernel) (by decide)) (
  xval (s_iret (by decide +kernel)) (
  xval_nil)))))))))))
theorem c_R_nextText : xMet xCl y_R_nextText ws_R_nextText rm_R_nextText (xRun tb_R_nextText 2) := xMet.of (by decide) rfl v_R_nextText
def tb_R_textLength : xT := [(0, o_iload 1 1), (1, o_ifn (fun a => a = 0) 8), (4, o_i 0 1), (5, o_goto 21), (8, o_aload 0 1), (9, o_getf 4 1), (12, o_aload 0 1), (13, o_getf 4 2), (16, o_iload 1 1), (17, o_iaload), (18, o_callV (xRun tb_B_get 2) 2 1 0 0), (21, o_iret)]
abbrev y_R_textLength : MethodName := ⟨"NameMover$ClassReader", "textLength", "(I)I"⟩
abbrev rm_R_textLength : Room := { frames := 1, cells := 0, slots := 0, locals := 21 }
abbrev ws_R_textLength : List Cond := Cond.code y_R_textLength prog_3_method_8_code 2 (some .int) :: xtt
set_option maxRecDepth 100000 in
theorem v_R_textLength : ∀ q ∈ tb_R_textLength, xSd (0, 0) x0 xCl "NameMover$ClassReader" ws_R_textLength prog_3_method_8_code 2 (some .int) rm_R_textLength q :=
  xval (s_iload_n (f := 1) (by decide +kernel) rfl) (
  xval (s_ifne (z := 7) (by decide +kernel) (by decide)) (
  xval (s_iconst (z := 0) (by decide +kernel) (by decide)) (
  xval (s_goto (z := 16) (by decide +kernel) (by decide)) (
  xval (s_aload_n (f := 0) (by decide +kernel) rfl) (
  xval (s_getf (i := 26) (by decide +kernel) rfl tin_R (by decide) (tc tw_135)) (
  xval (s_aload_n (f := 0) (by decide +kernel) rfl) (
  xval (s_getf (i := 9) (by decide +kernel) rfl tin_R (by decide) (tc tw_136)) (
  xval (s_iload_n (f := 1) (by decide +kernel) rfl) (
  xval (s_iaload (by decide +kernel)) (
  xval (s_callV (i := 89) c_B_get (by decide +kernel) rfl (xtt_good tw_644) rfl (tc tw_699) (tc tw_642) (tc tw_643) (tc tw_3) ⟨by decide, by decide, by decide +kernel⟩ ⟨by decide, by decide, rfl, rfl, by decide, by decide⟩ x0_e) (
  xval (s_iret (by decide +kernel)) (
  xval_nil))))))))))))
theorem c_R_textLength : xMet xCl y_R_textLength ws_R_textLength rm_R_textLength (xRun tb_R_textLength 2) := xMet.of (by decide) rfl v_R_textLength
def tb_R_textChar : xT := [(0, o_aload 0 1), (1, o_getf 4 1), (4, o_aload 0 1), (5, o_getf 4 2), (8, o_iload 1 1), (9, o_iaload), (10, o_i 1 1), (11, o_ii (fun a b => a + b)), (12, o_iload 2 1), (13, o_ii (fun a b => a + b)), (14, o_callV (xRun tb_B_get 2) 2 1 0 0), (17, o_iret)]
abbrev y_R_textChar : MethodName := ⟨"NameMover$ClassReader", "textChar", "(II)I"⟩
abbrev rm_R_textChar : Room := { frames := 1, cells := 0, slots := 0, locals := 21 }
abbrev ws_R_textChar : List Cond := Cond.code y_R_textChar prog_3_method_9_code 3 (some .int) :: xtt
set_option maxRecDepth 100000 in
theorem v_R_textChar : ∀ q ∈ tb_R_textChar, xSd (0, 0) x0 xCl "NameMover$ClassReader" ws_R_textChar prog_3_method_9_code 3 (some .int) rm_R_textChar q :=
  xval (s_aload_n (f := 0) (by decide +kernel) rfl) (
  xval (s_getf (i := 26) (by decide +kernel) rfl tin_R (by decide) (tc tw_135)) (
  xval (s_aload_n (f := 0) (by decide +kernel) rfl) (
  xval (s_getf (i := 9) (by decide +kernel) rfl tin_R (by decide) (tc tw_136)) (
  xval (s_iload_n (f := 1) (by decide +kernel) rfl) (
  xval (s_iaload (by decide +kernel)) (
  xval (s_iconst (z := 1) (by decide +kernel) (by decide)) (
  xval (s_iadd (by decide +kernel)) (
  xval (s_iload_n (f := 2) (by decide +kernel) rfl) (
  xval (s_iadd (by decide +kernel)) (
  xval (s_callV (i := 89) c_B_get (by decide +kernel) rfl (xtt_good tw_644) rfl (tc tw_699) (tc tw_642) (tc tw_643) (tc tw_3) ⟨by decide, by decide, by decide +kernel⟩ ⟨by decide, by decide, rfl, rfl, by decide, by decide⟩ x0_e) (
  xval (s_iret (by decide +kernel)) (
  xval_nil))))))))))))
theorem c_R_textChar : xMet xCl y_R_textChar ws_R_textChar rm_R_textChar (xRun tb_R_textChar 3) := xMet.of (by decide) rfl v_R_textChar
def tb_R_shortText3 : xT := [(0, o_iload 3 1), (1, o_iload 2 1), (2, o_ii (fun a b => a - b)), (3, o_i 8 2), (5, o_ic (fun a b => a ≤ b) 10), (8, o_l 0 1), (9, o_lret), (10, o_l 0 1), (11, o_lstore 4 2), (13, o_iload 2 1), (14, o_istore 6 2), (16, o_iload 6 2), (18, o_iload 3 1), (19, o_ic (fun a b => b ≤ a) 47), (22, o_lload 4 2), (24, o_aload 0 1), (25, o_iload 1 1), (26, o_iload 6 2), (28, o_callV (xRun tb_R_textChar 3) 4 2 0 0), (31, o_iload 6 2), (33, o_iload 2 1), (34, o_ii (fun a b => a - b)), (35, o_call (xRun tb_T_placed 2) 2 0 0), (38, o_ll (fun a b => a ||| b)), (39, o_lstore 4 2), (41, o_iinc 6 1), (44, o_goto 16), (47, o_lload 4 2), (49, o_lret)]
abbrev y_R_shortText3 : MethodName := ⟨"NameMover$ClassReader", "shortText", "(III)J"⟩
abbrev rm_R_shortText3 : Room := { frames := 2, cells := 0, slots := 0, locals := 43 }
abbrev ws_R_shortText3 : List Cond := Cond.code y_R_shortText3 prog_3_method_11_code 7 (some .long) :: xtt
set_option maxRecDepth 100000 in
theorem v_R_shortText3 : ∀ q ∈ tb_R_shortText3, xSd (0, 0) x0 xCl "NameMover$ClassReader" ws_R_shortText3 prog_3_method_11_code 7 (some .long) rm_R_shortText3 q :=
  xval (s_iload_n (f := 3) (by decide +kernel) rfl) (
  xval (s_iload_n (f := 2) (by decide +kernel) rfl) (
  xval (s_isub (by decide +kernel)) (
  xval (s_bipush (z := 8) (by decide +kernel) (by decide)) (
  xval (s_icle (z := 5) (by decide +kernel) (by decide)) (
  xval (s_lconst (z := 0) (by decide +kernel) (by decide)) (
  xval (s_lret (by decide +kernel)) (
  xval (s_lconst (z := 0) (by decide +kernel) (by decide)) (
  xval (s_lstore (by decide +kernel) (by decide)) (
  xval (s_iload_n (f := 2) (by decide +kernel) rfl) (
  xval (s_istore (by decide +kernel) (by decide)) (
  xval (s_iload (by decide +kernel)) (
  xval (s_iload_n (f := 3) (by decide +kernel) rfl) (
  xval (s_icge (z := 28) (by decide +kernel) (by decide)) (
  xval (s_lload (by decide +kernel)) (
  xval (s_aload_n (f := 0) (by decide +kernel) rfl) (
  xval (s_iload_n (f := 1) (by decide +kernel) rfl) (
  xval (s_iload (by decide +kernel)) (
  xval (s_callV (i := 104) c_R_textChar (by decide +kernel) rfl (xtt_good tw_724) rfl (tc tw_721) (tc tw_723) (tc ts_22) (tc tw_5) ⟨by decide, by decide, by decide +kernel⟩ ⟨by decide, by decide, rfl, rfl, by decide, by decide⟩ x0_e) (
  xval (s_iload (by decide +kernel)) (
  xval (s_iload_n (f := 2) (by decide +kernel) rfl) (
  xval (s_isub (by decide +kernel)) (
  xval (s_callS (i := 108) c_T_placed (by decide +kernel) rfl (xtt_good tw_486) (tc tw_725) (tc tw_485) (tc tw_7) ⟨by decide, by decide, by decide +kernel⟩ ⟨by decide, by decide, rfl, rfl, by decide, by decide⟩ x0_e) (
  xval (s_lor (by decide +kernel)) (
  xval (s_lstore (by decide +kernel) (by decide)) (
  xval (s_iinc (z := 1) (by decide +kernel) (by decide) (by decide)) (
  xval (s_goto (z := (-28)) (by decide +kernel) (by decide)) (
  xval (s_lload (by decide +kernel)) (
  xval (s_lret (by decide +kernel)) (
  xval_nil)))))))))))))))))))))))))))))
theorem c_R_shortText3 : xMet xCl y_R_shortText3 ws_R_shortText3 rm_R_shortText3 (xRun tb_R_shortText3 7) := xMet.of (by decide) rfl v_R_shortText3
def tb_R_shortText1 : xT := [(0, o_aload 0 1), (1, o_iload 1 1), (2, o_i 0 1), (3, o_aload 0 1), (4, o_iload 1 1), (5, o_callV (xRun tb_R_textLength 2) 4 1 0 0), (8, o_callV (xRun tb_R_shortText3 7) 4 3 0 0), (11, o_lret)]
abbrev y_R_shortText1 : MethodName := ⟨"NameMover$ClassReader", "shortText", "(I)J"⟩
abbrev rm_R_shortText1 : Room := { frames := 3, cells := 0, slots := 0, locals := 69 }
abbrev ws_R_shortText1 : List Cond := Cond.code y_R_shortText1 prog_3_method_10_code 2 (some .long) :: xtt
set_option maxRecDepth 100000 in
theorem v_R_shortText1 : ∀ q ∈ tb_R_shortText1, xSd (0, 0) x0 xCl "NameMover$ClassReader" ws_R_shortText1 prog_3_method_10_code 2 (some .long) rm_R_shortText1 q :=
  xval (s_aload_n (f := 0) (by decide +kernel) rfl) (
  xval (s_iload_n (f := 1) (by decide +kernel) rfl) (
  xval (s_iconst (z := 0) (by decide +kernel) (by decide)) (
  xval (s_aload_n (f := 0) (by decide +kernel) rfl) (
  xval (s_iload_n (f := 1) (by decide +kernel) rfl) (
  xval (s_callV (i := 98) c_R_textLength (by decide +kernel) rfl (xtt_good tw_716) rfl (tc tw_713) (tc tw_715) (tc ts_20) (tc tw_5) ⟨by decide, by decide, by decide +kernel⟩ ⟨by decide, by decide, rfl, rfl, by decide, by decide⟩ x0_e) (
  xval (s_callV (i := 101) c_R_shortText3 (by decide +kernel) rfl (xtt_good tw_720) rfl (tc tw_717) (tc tw_719) (tc ts_21) (tc tw_5) ⟨by decide, by decide, by decide +kernel⟩ ⟨by decide, by decide, rfl, rfl, by decide, by decide⟩ x0_e) (
  xval (s_lret (by decide +kernel)) (
  xval_nil))))))))
theorem c_R_shortText1 : xMet xCl y_R_shortText1 ws_R_shortText1 rm_R_shortText1 (xRun tb_R_shortText1 2) := xMet.of (by decide) rfl v_R_shortText1
def tb_R_nextSuperclass : xT := [(0, o_aload 0 1), (1, o_callV (xRun tb_R_nextByte 1) 4 0 0 0), (4, o_istore 1 1), (5, o_iload 1 1), (6, o_ifn (fun a => a = 0) 11), (9, o_i (-1) 1), (10, o_iret), (11, o_iload 1 1), (12, o_aload 0 1), (13, o_getf 4 3), (16, o_ic (fun a b => a ≤ b) 23), (19, o_i (-1) 1), (20, o_goto 42), (23, o_aload 0 1), (24, o_getf 4 0), (27, o_aload 0 1), (28, o_iload 1 1), (29, o_callV (xRun tb_R_shortText1 2) 4 1 0 0), (32, o_aload 0 1), (33, o_getf 4 0), (36, o_getf 1 10), (39, o_callV (xRun tb_S_classNamed 5) 1 2 0 0), (42, o_istore 2 1), (43, o_iload 2 1), (44, o_i (-1) 1), (45, o_icn (fun a b => a = b) 53), (48, o_i (-2) 2), (50, o_goto 54), (53, o_iload 2 1), (54, o_iret)]
abbrev y_R_nextSuperclass : MethodName := ⟨"NameMover$ClassReader", "nextSuperclass", "()I"⟩
abbrev rm_R_nextSuperclass : Room := { frames := 4, cells := 0, slots := 0, locals := 90 }
abbrev ws_R_nextSuperclass : List Cond := Cond.code y_R_nextSuperclass prog_3_method_7_code 3 (some .int) :: xtt
set_option maxRecDepth 100000 in
theorem v_R_nextSuperclass : ∀ q ∈ tb_R_nextSuperclass, xSd (0, 0) x0 xCl "NameMover$ClassReader" ws_R_nextSuperclass prog_3_method_7_code 3 (some .int) rm_R_nextSuperclass q :=
  xval (s_aload_n (f := 0) (by decide +kernel) rfl) (
  xval (s_callV (i := 60) c_R_nextByte (by decide +kernel) rfl (xtt_good tw_708) rfl (tc tw_705) (tc tw_707) (tc ts_18) (tc tw_5) ⟨by decide, by decide, by decide +kernel⟩ ⟨by decide, by decide, rfl, rfl, by decide, by decide⟩ x0_e) (
  xval (s_istore_n (f := 1) (by decide +kernel) rfl (by decide)) (
  xval (s_iload_n (f := 1) (by decide +kernel) rfl) (
  xval (s_ifne (z := 5) (by decide +kernel) (by decide)) (
  xval (s_iconst (z := (-1)) (by decide +kernel) (by decide)) (
  xval (s_iret (by decide +kernel)) (
  xval (s_iload_n (f := 1) (by decide +kernel) rfl) (
  xval (s_aload_n (f := 0) (by decide +kernel) rfl) (
  xval (s_getf (i := 15) (by decide +kernel) rfl tin_R (by decide) (tc tw_137)) (
  xval (s_icle (z := 7) (by decide +kernel) (by decide)) (
  xval (s_iconst (z := (-1)) (by decide +kernel) (by decide)) (
  xval (s_goto (z := 22) (by decide +kernel) (by decide)) (
  xval (s_aload_n (f := 0) (by decide +kernel) rfl) (
  xval (s_getf (i := 22) (by decide +kernel) rfl tin_R (by decide) (tc tw_134)) (
  xval (s_aload_n (f := 0) (by decide +kernel) rfl) (
  xval (s_iload_n (f := 1) (by decide +kernel) rfl) (
  xval (s_callV (i := 38) c_R_shortText1 (by decide +kernel) rfl (xtt_good tw_712) rfl (tc tw_709) (tc tw_711) (tc ts_19) (tc tw_5) ⟨by decide, by decide, by decide +kernel⟩ ⟨by decide, by decide, rfl, rfl, by decide, by decide⟩ x0_e) (
  xval (s_aload_n (f := 0) (by decide +kernel) rfl) (
  xval (s_getf (i := 22) (by decide +kernel) rfl tin_R (by decide) (tc tw_134)) (
  xval (s_getf (i := 48) (by decide +kernel) rfl tin_S (by decide) (tc tw_61)) (
  xval (s_callV (i := 53) c_S_classNamed (by decide +kernel) rfl (xtt_good tw_377) rfl (tc tw_727) (tc tw_375) (tc tw_376) (tc tw_2) ⟨by decide, by decide, by decide +kernel⟩ ⟨by decide, by decide, rfl, rfl, by decide, by decide⟩ x0_e) (
  xval (s_istore_n (f := 2) (by decide +kernel) rfl (by decide)) (
  xval (s_iload_n (f := 2) (by decide +kernel) rfl) (
  xval (s_iconst (z := (-1)) (by decide +kernel) (by decide)) (
  xval (s_icne (z := 8) (by decide +kernel) (by decide)) (
  xval (s_bipush (z := (-2)) (by decide +kernel) (by decide)) (
  xval (s_goto (z := 4) (by decide +kernel) (by decide)) (
  xval (s_iload_n (f := 2) (by decide +kernel) rfl) (
  xval (s_iret (by decide +kernel)) (
  xval_nil))))))))))))))))))))))))))))))
theorem c_R_nextSuperclass : xMet xCl y_R_nextSuperclass ws_R_nextSuperclass rm_R_nextSuperclass (xRun tb_R_nextSuperclass 3) := xMet.of (by decide) rfl v_R_nextSuperclass
def tb_R_semicolon : xT := [(0, o_iload 2 1), (1, o_istore 4 2), (3, o_iload 4 2), (5, o_iload 3 1), (6, o_ic (fun a b => b ≤ a) 27), (9, o_aload 0 1), (10, o_iload 1 1), (11, o_iload 4 2), (13, o_callV (xRun tb_R_textChar 3) 4 2 0 0), (16, o_i 59 2), (18, o_ic (fun a b => a = b) 27), (21, o_iinc 4 1), (24, o_goto 3), (27, o_iload 4 2), (29, o_iret)]
abbrev y_R_semicolon : MethodName := ⟨"NameMover$ClassReader", "semicolon", "(III)I"⟩
abbrev rm_R_semicolon : Room := { frames := 2, cells := 0, slots := 0, locals := 43 }
abbrev ws_R_semicolon : List Cond := Cond.code y_R_semicolon prog_3_method_13_code 5 (some .int) :: xtt
set_option maxRecDepth 100000 in
theorem v_R_semicolon : ∀ q ∈ tb_R_semicolon, xSd (0, 0) x0 xCl "NameMover$ClassReader" ws_R_semicolon prog_3_method_13_code 5 (some .int) rm_R_semicolon q :=
  xval (s_iload_n (f := 2) (by decide +kernel) rfl) (
  xval (s_istore (by decide +kernel) (by decide)) (
  xval (s_iload (by decide +kernel)) (
  xval (s_iload_n (f := 3) (by decide +kernel) rfl) (
  xval (s_icge (z := 21) (by decide +kernel) (by decide)) (
  xval (s_aload_n (f := 0) (by decide +kernel) rfl) (
  xval (s_iload_n (f := 1) (by decide +kernel) rfl) (
  xval (s_iload (by decide +kernel)) (
  xval (s_callV (i := 104) c_R_textChar (by decide +kernel) rfl (xtt_good tw_724) rfl (tc tw_721) (tc tw_723) (tc ts_22) (tc tw_5) ⟨by decide, by decide, by decide +kernel⟩ ⟨by decide, by decide, rfl, rfl, by decide, by decide⟩ x0_e) (
  xval (s_bipush (z := 59) (by decide +kernel) (by decide)) (
  xval (s_iceq (z := 9) (by decide +kernel) (by decide)) (
  xval (s_iinc (z := 1) (by decide +kernel) (by decide) (by decide)) (
  xval (s_goto (z := (-21)) (by decide +kernel) (by decide)) (
  xval (s_iload (by decide +kernel)) (
  xval (s_iret (by decide +kernel)) (
  xval_nil)))))))))))))))
theorem c_R_semicolon : xMet xCl y_R_semicolon ws_R_semicolon rm_R_semicolon (xRun tb_R_semicolon 5) := xMet.of (by decide) rfl v_R_semicolon
def tb_R_compactDescriptor : xT := [(0, o_l 0 1), (1, o_lstore 2 1), (2, o_i 0 1), (3, o_istore 4 2), (5, o_aload 0 1), (6, o_iload 1 1), (7, o_callV (xRun tb_R_textLength 2) 4 1 0 0), (10, o_istore 5 2), (12, o_i 0 1), (13, o_istore 6 2), (15, o_iload 6 2), (17, o_iload 5 2), (19, o_ic (fun a b => b ≤ a) 130), (22, o_aload 0 1), (23, o_iload 1 1), (24, o_iload 6 2), (26, o_callV (xRun tb_R_textChar 3) 4 2 0 0), (29, o_istore 7 2), (31, o_iload 7 2), (33, o_i 76 2), (35, o_icn (fun a b => a = b) 102), (38, o_aload 0 1), (39, o_iload 1 1), (40, o_iload 6 2), (42, o_iload 5 2), (44, o_callV (xRun tb_R_semicolon 5) 4 3 0 0), (47, o_istore 8 2), (49, o_aload 0 1), (50, o_getf 4 0), (53, o_aload 0 1), (54, o_iload 1 1), (55, o_iload 6 2), (57, o_i 1 1), (58, o_ii (fun a b => a + b)), (59, o_iload 8 2), (61, o_callV (xRun tb_R_shortText3 7) 4 3 0 0), (64, o_aload 0 1), (65, o_getf 4 0), (68, o_getf 1 10), (71, o_i 1 1), (72, o_ii (fun a b => a + b)), (73, o_callV (xRun tb_S_classNamed 5) 1 2 0 0), (76, o_istore 9 2), (78, o_iload 9 2), (80, o_i (-1) 1), (81, o_icn (fun a b => a = b) 86), (84, o_l 0 1), (85, o_lret), (86, o_i 48 2), (88, o_iload 9 2), (90, o_ii (fun a b => a + b)), (91, o_istore 7 2), (93, o_iload 6 2), (95, o_iload 8 2), (97, o_max 0), (100, o_istore 6 2), (102, o_iload 4 2), (104, o_i 8 2), (106, o_icn (fun a b => a = b) 111), (109, o_l 0 1), (110, o_lret), (111, o_lload 2 1), (112, o_iload 7 2), (114, o_iload 4 2), (116, o_call (xRun tb_T_placed 2) 2 0 0), (119, o_ll (fun a b => a ||| b)), (120, o_lstore 2 1), (121, o_iinc 4 1), (124, o_iinc 6 1), (127, o_goto 15), (130, o_lload 2 1), (131, o_lret)]
abbrev y_R_compactDescriptor : MethodName := ⟨"NameMover$ClassReader", "compactDescriptor", "(I)J"⟩
abbrev rm_R_compactDescriptor : Room := { frames := 3, cells := 0, slots := 0, locals := 69 }
abbrev ws_R_compactDescriptor : List Cond := Cond.code y_R_compactDescriptor prog_3_method_12_code 10 (some .long) :: xtt
set_option maxRecDepth 100000 in
theorem v_R_compactDescriptor : ∀ q ∈ tb_R_compactDescriptor, xSd (0, 0) x0 xCl "NameMover$ClassReader" ws_R_compactDescriptor prog_3_method_12_code 10 (some .long) rm_R_compactDescriptor q :=
  xval (s_lconst (z := 0) (by decide +kernel) (by decide)) (
  xval (s_lstore_n (f := 2) (by decide +kernel) rfl (by decide)) (
  xval (s_iconst (z := 0) (by decide +kernel) (by decide)) (
  xval (s_istore (by decide +kernel) (by decide)) (
  xval (s_aload_n (f := 0) (by decide +kernel) rfl) (
  xval (s_iload_n (f := 1) (by decide +kernel) rfl) (
  xval (s_callV (i := 98) c_R_textLength (by decide +kernel) rfl (xtt_good tw_716) rfl (tc tw_713) (tc tw_715) (tc ts_20) (tc tw_5) ⟨by decide, by decide, by decide +kernel⟩ ⟨by decide, by decide, rfl, rfl, by decide, by decide⟩ x0_e) (
  xval (s_istore (by decide +kernel) (by decide)) (
  xval (s_iconst (z := 0) (by decide +kernel) (by decide)) (
  xval (s_istore (by decide +kernel) (by decide)) (
  xval (s_iload (by decide +kernel)) (
  xval (s_iload (by decide +kernel)) (
  xval (s_icge (z := 111) (by decide +kernel) (by decide)) (
  xval (s_aload_n (f := 0) (by decide +kernel) rfl) (
  xval (s_iload_n (f := 1) (by decide +kernel) rfl) (
  xval (s_iload (by decide +kernel)) (
  xval (s_callV (i := 104) c_R_textChar (by decide +kernel) rfl (xtt_good tw_724) rfl (tc tw_721) (tc tw_723) (tc ts_22) (tc tw_5) ⟨by decide, by decide, by decide +kernel⟩ ⟨by decide, by decide, rfl, rfl, by decide, by decide⟩ x0_e) (
  xval (s_istore (by decide +kernel) (by decide)) (
  xval (s_iload (by decide +kernel)) (
  xval (s_bipush (z := 76) (by decide +kernel) (by decide)) (
  xval (s_icne (z := 67) (by decide +kernel) (by decide)) (
  xval (s_aload_n (f := 0) (by decide +kernel) rfl) (
  xval (s_iload_n (f := 1) (by decide +kernel) rfl) (
  xval (s_iload (by decide +kernel)) (
  xval (s_iload (by decide +kernel)) (
  xval (s_callV (i := 112) c_R_semicolon (by decide +kernel) rfl (xtt_good tw_744) rfl (tc tw_741) (tc tw_743) (tc ts_26) (tc tw_5) ⟨by decide, by decide, by decide +kernel⟩ ⟨by decide, by decide, rfl, rfl, by decide, by decide⟩ x0_e) (
  xval (s_istore (by decide +kernel) (by decide)) (
  xval (s_aload_n (f := 0) (by decide +kernel) rfl) (
  xval (s_getf (i := 22) (by decide +kernel) rfl tin_R (by decide) (tc tw_134)) (
  xval (s_aload_n (f := 0) (by decide +kernel) rfl) (
  xval (s_iload_n (f := 1) (by decide +kernel) rfl) (
  xval (s_iload (by decide +kernel)) (
  xval (s_iconst (z := 1) (by decide +kernel) (by decide)) (
  xval (s_iadd (by decide +kernel)) (
  xval (s_iload (by decide +kernel)) (
  xval (s_callV (i := 101) c_R_shortText3 (by decide +kernel) rfl (xtt_good tw_720) rfl (tc tw_717) (tc tw_719) (tc ts_21) (tc tw_5) ⟨by decide, by decide, by decide +kernel⟩ ⟨by decide, by decide, rfl, rfl, by decide, by decide⟩ x0_e) (
  xval (s_aload_n (f := 0) (by decide +kernel) rfl) (
  xval (s_getf (i := 22) (by decide +kernel) rfl tin_R (by decide) (tc tw_134)) (
  xval (s_getf (i := 48) (by decide +kernel) rfl tin_S (by decide) (tc tw_61)) (
  xval (s_iconst (z := 1) (by decide +kernel) (by decide)) (
  xval (s_iadd (by decide +kernel)) (
  xval (s_callV (i := 53) c_S_classNamed (by decide +kernel) rfl (xtt_good tw_377) rfl (tc tw_727) (tc tw_375) (tc tw_376) (tc tw_2) ⟨by decide, by decide, by decide +kernel⟩ ⟨by decide, by decide, rfl, rfl, by decide, by decide⟩ x0_e) (
  xval (s_istore (by decide +kernel) (by decide)) (
  xval (s_iload (by decide +kernel)) (
  xval (s_iconst (z := (-1)) (by decide +kernel) (by decide)) (
  xval (s_icne (z := 5) (by decide +kernel) (by decide)) (
  xval (s_lconst (z := 0) (by decide +kernel) (by decide)) (
  xval (s_lret (by decide +kernel)) (
  xval (s_bipush (z := 48) (by decide +kernel) (by decide)) (
  xval (s_iload (by decide +kernel)) (
  xval (s_iadd (by decide +kernel)) (
  xval (s_istore (by decide +kernel) (by decide)) (
  xval (s_iload (by decide +kernel)) (
  xval (s_iload (by decide +kernel)) (
  xval (s_max (i := 116) (by decide +kernel) (tc tw_745) (tc tw_601) (tc tw_18) (tc tw_602) ⟨by decide, by decide, trivial⟩ ⟨by decide, by decide⟩) (
  xval (s_istore (by decide +kernel) (by decide)) (
  xval (s_iload (by decide +kernel)) (
  xval (s_bipush (z := 8) (by decide +kernel) (by decide)) (
  xval (s_icne (z := 5) (by decide +kernel) (by decide)) (
  xval (s_lconst (z := 0) (by decide +kernel) (by decide)) (
  xval (s_lret (by decide +kernel)) (
  xval (s_lload_n (f := 2) (by decide +kernel) rfl) (
  xval (s_iload (by decide +kernel)) (
  xval (s_iload (by decide +kernel)) (
  xval (s_callS (i := 108) c_T_placed (by decide +kernel) rfl (xtt_good tw_486) (tc tw_725) (tc tw_485) (tc tw_7) ⟨by decide, by decide, by decide +kernel⟩ ⟨by decide, by decide, rfl, rfl, by decide, by decide⟩ x0_e) (
  xval (s_lor (by decide +kernel)) (
  xval (s_lstore_n (f := 2) (by decide +kernel) rfl (by decide)) (
  xval (s_iinc (z := 1) (by decide +kernel) (by decide) (by decide)) (
  xval (s_iinc (z := 1) (by decide +kernel) (by decide) (by decide)) (
  xval (s_goto (z := (-112)) (by decide +kernel) (by decide)) (
  xval (s_lload_n (f := 2) (by decide +kernel) rfl) (
  xval (s_lret (by decide +kernel)) (
  xval_nil))))))))))))))))))))))))))))))))))))))))))))))))))))))))))))))))))))))))
theorem c_R_compactDescriptor : xMet xCl y_R_compactDescriptor ws_R_compactDescriptor rm_R_compactDescriptor (xRun tb_R_compactDescriptor 10) := xMet.of (by decide) rfl v_R_compactDescriptor
def tb_R_placeMember : xT := [(0, o_aload 0 1), (1, o_getf 4 0), (4, o_getf 1 10), (7, o_istore 1 1), (8, o_aload 0 1), (9, o_aload 0 1), (10, o_callV (xRun tb_R_nextText 2) 4 0 0 0), (13, o_callV (xRun tb_R_shortText1 2) 4 1 0 0), (16, o_lstore 2 1), (17, o_aload 0 1), (18, o_aload 0 1), (19, o_callV (xRun tb_R_nextText 2) 4 0 0 0), (22, o_callV (xRun tb_R_compactDescriptor 10) 4 1 0 0), (25, o_lstore 4 2), (27, o_aload 0 1), (28, o_callV (xRun tb_R_nextByte 1) 4 0 0 0), (31, o_i 1 1), (32, o_icn (fun a b => a = b) 39), (35, o_i 1 1), (36, o_goto 40), (39, o_i 0 1), (40, o_istore 6 2), (42, o_lload 2 1), (43, o_call (xRun tb_T_isIdentifier 2) 1 0 0), (46, o_if (fun a => a = 0) 74), (49, o_lload 4 2), (51, o_iload 1 1), (52, o_i 1 1), (53, o_ii (fun a b => a + b)), (54, o_call (xRun tb_D_isOne 5) 2 0 0), (57, o_if (fun a => a = 0) 74), (60, o_aload 0 1), (61, o_getf 4 0), (64, o_iload 1 1), (65, o_lload 2 1), (66, o_lload 4 2), (68, o_callV (xRun tb_S_hasRoomFor 6) 1 3 0 0), (71, o_ifn (fun a => a = 0) 76), (74, o_i 0 1), (75, o_zret), (76, o_aload 0 1), (77, o_getf 4 0), (80, o_iload 1 1), (81, o_lload 2 1), (82, o_lload 4 2), (84, o_iload 6 2), (86, o_callV (xRun tb_S_placeMember 9) 1 4 0 0), (89, o_pop), (90, o_i 1 1), (91, o_zret)]
abbrev y_R_placeMember : MethodName := ⟨"NameMover$ClassReader", "placeMember", "()Z"⟩
abbrev rm_R_placeMember : Room := { frames := 4, cells := 0, slots := 0, locals := 98 }
abbrev ws_R_placeMember : List Cond := Cond.code y_R_placeMember prog_3_method_3_code 7 (some .boolean) :: xtt
set_option maxRecDepth 100000 in
theorem v_R_placeMember : ∀ q ∈ tb_R_placeMember, xSd (0, 0) x0 xCl "NameMover$ClassReader" ws_R_placeMember prog_3_method_3_code 7 (some .boolean) rm_R_placeMember q :=
  xval (s_aload_n (f := 0) (by decide +kernel) rfl) (
  xval (s_getf (i := 22) (by decide +kernel) rfl tin_R (by decide) (tc tw_134)) (
  xval (s_getf (i := 48) (by decide +kernel) rfl tin_S (by decide) (tc tw_61)) (
  xval (s_istore_n (f := 1) (by decide +kernel) rfl (by decide)) (
  xval (s_aload_n (f := 0) (by decide +kernel) rfl) (
  xval (s_aload_n (f := 0) (by decide +kernel) rfl) (
  xval (s_callV (i := 34) c_R_nextText (by decide +kernel) rfl (xtt_good tw_704) rfl (tc tw_701) (tc tw_703) (tc ts_17) (tc tw_5) ⟨by decide, by decide, by decide +kernel⟩ ⟨by decide, by decide, rfl, rfl, by decide, by decide⟩ x0_e) (
  xval (s_callV (i := 38) c_R_shortText1 (by decide +kernel) rfl (xtt_good tw_712) rfl (tc tw_709) (tc tw_711) (tc ts_19) (tc tw_5) ⟨by decide, by decide, by decide +kernel⟩ ⟨by decide, by decide, rfl, rfl, by decide, by decide⟩ x0_e) (
  xval (s_lstore_n (f := 2) (by decide +kernel) rfl (by decide)) (
  xval (s_aload_n (f := 0) (by decide +kernel) rfl) (
  xval (s_aload_n (f := 0) (by decide +kernel) rfl) (
  xval (s_callV (i := 34) c_R_nextText (by decide +kernel) rfl (xtt_good tw_704) rfl (tc tw_701) (tc tw_703) (tc ts_17) (tc tw_5) ⟨by decide, by decide, by decide +kernel⟩ ⟨by decide, by decide, rfl, rfl, by decide, by decide⟩ x0_e) (
  xval (s_callV (i := 70) c_R_compactDescriptor (by decide +kernel) rfl (xtt_good tw_740) rfl (tc tw_737) (tc tw_739) (tc ts_25) (tc tw_5) ⟨by decide, by decide, by decide +kernel⟩ ⟨by decide, by decide, rfl, rfl, by decide, by decide⟩ x0_e) (
  xval (s_lstore (by decide +kernel) (by decide)) (
  xval (s_aload_n (f := 0) (by decide +kernel) rfl) (
  xval (s_callV (i := 60) c_R_nextByte (by decide +kernel) rfl (xtt_good tw_708) rfl (tc tw_705) (tc tw_707) (tc ts_18) (tc tw_5) ⟨by decide, by decide, by decide +kernel⟩ ⟨by decide, by decide, rfl, rfl, by decide, by decide⟩ x0_e) (
  xval (s_iconst (z := 1) (by decide +kernel) (by decide)) (
  xval (s_icne (z := 7) (by decide +kernel) (by decide)) (
  xval (s_iconst (z := 1) (by decide +kernel) (by decide)) (
  xval (s_goto (z := 4) (by decide +kernel) (by decide)) (
  xval (s_iconst (z := 0) (by decide +kernel) (by decide)) (
  xval (s_istore (by decide +kernel) (by decide)) (
  xval (s_lload_n (f := 2) (by decide +kernel) rfl) (
  xval (s_callS (i := 73) c_T_isIdentifier (by decide +kernel) rfl (xtt_good tw_416) (tc tw_746) (tc tw_415) (tc tw_7) ⟨by decide, by decide, by decide +kernel⟩ ⟨by decide, by decide, rfl, rfl, by decide, by decide⟩ x0_e) (
  xval (s_ifeq (z := 28) (by decide +kernel) (by decide)) (
  xval (s_lload (by decide +kernel)) (
  xval (s_iload_n (f := 1) (by decide +kernel) rfl) (
  xval (s_iconst (z := 1) (by decide +kernel) (by decide)) (
  xval (s_iadd (by decide +kernel)) (
  xval (s_callS (i := 76) c_D_isOne (by decide +kernel) rfl (xtt_good tw_420) (tc tw_747) (tc tw_419) (tc tw_14) ⟨by decide, by decide, by decide +kernel⟩ ⟨by decide, by decide, rfl, rfl, by decide, by decide⟩ x0_e) (
  xval (s_ifeq (z := 17) (by decide +kernel) (by decide)) (
  xval (s_aload_n (f := 0) (by decide +kernel) rfl) (
  xval (s_getf (i := 22) (by decide +kernel) rfl tin_R (by decide) (tc tw_134)) (
  xval (s_iload_n (f := 1) (by decide +kernel) rfl) (
  xval (s_lload_n (f := 2) (by decide +kernel) rfl) (
  xval (s_lload (by decide +kernel)) (
  xval (s_callV (i := 82) c_S_hasRoomFor (by decide +kernel) rfl (xtt_good tw_439) rfl (tc tw_748) (tc tw_437) (tc tw_438) (tc tw_2) ⟨by decide, by decide, by decide +kernel⟩ ⟨by decide, by decide, rfl, rfl, by decide, by decide⟩ x0_e) (
  xval (s_ifne (z := 5) (by decide +kernel) (by decide)) (
  xval (s_iconst (z := 0) (by decide +kernel) (by decide)) (
  xval (s_zret (by decide +kernel)) (
  xval (s_aload_n (f := 0) (by decide +kernel) rfl) (
  xval (s_getf (i := 22) (by decide +kernel) rfl tin_R (by decide) (tc tw_134)) (
  xval (s_iload_n (f := 1) (by decide +kernel) rfl) (
  xval (s_lload_n (f := 2) (by decide +kernel) rfl) (
  xval (s_lload (by decide +kernel)) (
  xval (s_iload (by decide +kernel)) (
  xval (s_callV (i := 86) c_S_placeMember (by decide +kernel) rfl (xtt_good tw_451) rfl (tc tw_749) (tc tw_449) (tc tw_450) (tc tw_2) ⟨by decide, by decide, by decide +kernel⟩ ⟨by decide, by decide, rfl, rfl, by decide, by decide⟩ x0_e) (
  xval (s_pop (by decide +kernel)) (
  xval (s_iconst (z := 1) (by decide +kernel) (by decide)) (
  xval (s_zret (by decide +kernel)) (
  xval_nil))))))))))))))))))))))))))))))))))))))))))))))))))
theorem c_R_placeMember : xMet xCl y_R_placeMember ws_R_placeMember rm_R_placeMember (xRun tb_R_placeMember 7) := xMet.of (by decide) rfl v_R_placeMember
end
section
def tb_R_placeClass : xT := [(0, o_aload 0 1), (1, o_callV (xRun tb_R_skipPool 2) 4 0 0 0), (4, o_ifn (fun a => a = 0) 9), (7, o_i 0 1), (8, o_zret), (9, o_aload 0 1), (10, o_aload 0 1), (11, o_callV (xRun tb_R_nextText 2) 4 0 0 0), (14, o_callV (xRun tb_R_shortText1 2) 4 1 0 0), (17, o_lstore 1 1), (18, o_lload 1 1), (19, o_call (xRun tb_T_isClassName 6) 1 0 0), (22, o_if (fun a => a = 0) 44), (25, o_aload 0 1), (26, o_getf 4 0), (29, o_lload 1 1), (30, o_aload 0 1), (31, o_getf 4 0), (34, o_getf 1 10), (37, o_callV (xRun tb_S_classNamed 5) 1 2 0 0), (40, o_i (-1) 1), (41, o_ic (fun a b => a = b) 46), (44, o_i 0 1), (45, o_zret), (46, o_aload 0 1), (47, o_callV (xRun tb_R_nextSuperclass 3) 4 0 0 0), (50, o_istore 3 1), (51, o_iload 3 1), (52, o_i (-2) 2), (54, o_icn (fun a b => a = b) 59), (57, o_i 0 1), (58, o_zret), (59, o_aload 0 1), (60, o_getf 4 0), (63, o_lload 1 1), (64, o_iload 3 1), (65, o_aload 0 1), (66, o_callV (xRun tb_R_nextByte 1) 4 0 0 0), (69, o_i 1 1), (70, o_icn (fun a b => a = b) 77), (73, o_i 1 1), (74, o_goto 78), (77, o_i 0 1), (78, o_callV (xRun tb_S_placeClass 5) 1 3 0 0), (81, o_aload 0 1), (82, o_callV (xRun tb_R_nextByte 1) 4 0 0 0), (85, o_istore 4 2), (87, o_i 0 1), (88, o_istore 5 2), (90, o_iload 5 2), (92, o_iload 4 2), (94, o_ic (fun a b => b ≤ a) 112), (97, o_aload 0 1), (98, o_callV (xRun tb_R_placeMember 7) 4 0 0 0), (101, o_ifn (fun a => a = 0) 106), (104, o_i 0 1), (105, o_zret), (106, o_iinc 5 1), (109, o_goto 90), (112, o_i 1 1), (113, o_zret)]
abbrev y_R_placeClass : MethodName := ⟨"NameMover$ClassReader", "placeClass", "()Z"⟩
abbrev rm_R_placeClass : Room := { frames := 5, cells := 0, slots := 0, locals := 124 }
abbrev ws_R_placeClass : List Cond := Cond.code y_R_placeClass prog_3_method_2_code 6 (some .boolean) :: xtt
set_option maxRecDepth 100000 in
theorem v_R_placeClass : ∀ q ∈ tb_R_placeClass, xSd (0, 0) x0 xCl "NameMover$ClassReader" ws_R_placeClass prog_3_method_2_code 6 (some .boolean) rm_R_placeClass q :=
  xval (s_aload_n (f := 0) (by decide +kernel) rfl) (
  xval (s_callV (i := 30) c_R_skipPool (by decide +kernel) rfl (xtt_good tw_698) rfl (tc tw_695) (tc tw_697) (tc ts_16) (tc tw_5) ⟨by decide, by decide, by decide +kernel⟩ ⟨by decide, by decide, rfl, rfl, by decide, by decide⟩ x0_e) (
  xval (s_ifne (z := 5) (by decide +kernel) (by decide)) (
  xval (s_iconst (z := 0) (by decide +kernel) (by decide)) (
  xval (s_zret (by decide +kernel)) (
  xval (s_aload_n (f := 0) (by decide +kernel) rfl) (
  xval (s_aload_n (f := 0) (by decide +kernel) rfl) (
  xval (s_callV (i := 34) c_R_nextText (by decide +kernel) rfl (xtt_good tw_704) rfl (tc tw_701) (tc tw_703) (tc ts_17) (tc tw_5) ⟨by decide, by decide, by decide +kernel⟩ ⟨by decide, by decide, rfl, rfl, by decide, by decide⟩ x0_e) (
  xval (s_callV (i := 38) c_R_shortText1 (by decide +kernel) rfl (xtt_good tw_712) rfl (tc tw_709) (tc tw_711) (tc ts_19) (tc tw_5) ⟨by decide, by decide, by decide +kernel⟩ ⟨by decide, by decide, rfl, rfl, by decide, by decide⟩ x0_e) (
  xval (s_lstore_n (f := 1) (by decide +kernel) rfl (by decide)) (
  xval (s_lload_n (f := 1) (by decide +kernel) rfl) (
  xval (s_callS (i := 42) c_T_isClassName (by decide +kernel) rfl (xtt_good tw_269) (tc tw_726) (tc tw_268) (tc tw_7) ⟨by decide, by decide, by decide +kernel⟩ ⟨by decide, by decide, rfl, rfl, by decide, by decide⟩ x0_e) (
  xval (s_ifeq (z := 22) (by decide +kernel) (by decide)) (
  xval (s_aload_n (f := 0) (by decide +kernel) rfl) (
  xval (s_getf (i := 22) (by decide +kernel) rfl tin_R (by decide) (tc tw_134)) (
  xval (s_lload_n (f := 1) (by decide +kernel) rfl) (
  xval (s_aload_n (f := 0) (by decide +kernel) rfl) (
  xval (s_getf (i := 22) (by decide +kernel) rfl tin_R (by decide) (tc tw_134)) (
  xval (s_getf (i := 48) (by decide +kernel) rfl tin_S (by decide) (tc tw_61)) (
  xval (s_callV (i := 53) c_S_classNamed (by decide +kernel) rfl (xtt_good tw_377) rfl (tc tw_727) (tc tw_375) (tc tw_376) (tc tw_2) ⟨by decide, by decide, by decide +kernel⟩ ⟨by decide, by decide, rfl, rfl, by decide, by decide⟩ x0_e) (
  xval (s_iconst (z := (-1)) (by decide +kernel) (by decide)) (
  xval (s_iceq (z := 5) (by decide +kernel) (by decide)) (
  xval (s_iconst (z := 0) (by decide +kernel) (by decide)) (
  xval (s_zret (by decide +kernel)) (
  xval (s_aload_n (f := 0) (by decide +kernel) rfl) (
  xval (s_callV (i := 57) c_R_nextSuperclass (by decide +kernel) rfl (xtt_good tw_731) rfl (tc tw_728) (tc tw_730) (tc ts_23) (tc tw_5) ⟨by decide, by decide, by decide +kernel⟩ ⟨by decide, by decide, rfl, rfl, by decide, by decide⟩ x0_e) (
  xval (s_istore_n (f := 3) (by decide +kernel) rfl (by decide)) (
  xval (s_iload_n (f := 3) (by decide +kernel) rfl) (
  xval (s_bipush (z := (-2)) (by decide +kernel) (by decide)) (
  xval (s_icne (z := 5) (by decide +kernel) (by decide)) (
  xval (s_iconst (z := 0) (by decide +kernel) (by decide)) (
  xval (s_zret (by decide +kernel)) (
  xval (s_aload_n (f := 0) (by decide +kernel) rfl) (
  xval (s_getf (i := 22) (by decide +kernel) rfl tin_R (by decide) (tc tw_134)) (
  xval (s_lload_n (f := 1) (by decide +kernel) rfl) (
  xval (s_iload_n (f := 3) (by decide +kernel) rfl) (
  xval (s_aload_n (f := 0) (by decide +kernel) rfl) (
  xval (s_callV (i := 60) c_R_nextByte (by decide +kernel) rfl (xtt_good tw_708) rfl (tc tw_705) (tc tw_707) (tc ts_18) (tc tw_5) ⟨by decide, by decide, by decide +kernel⟩ ⟨by decide, by decide, rfl, rfl, by decide, by decide⟩ x0_e) (
  xval (s_iconst (z := 1) (by decide +kernel) (by decide)) (
  xval (s_icne (z := 7) (by decide +kernel) (by decide)) (
  xval (s_iconst (z := 1) (by decide +kernel) (by decide)) (
  xval (s_goto (z := 4) (by decide +kernel) (by decide)) (
  xval (s_iconst (z := 0) (by decide +kernel) (by decide)) (
  xval (s_callV (i := 63) c_S_placeClass (by decide +kernel) rfl (xtt_good tw_397) rfl (tc tw_732) (tc tw_395) (tc tw_396) (tc tw_2) ⟨by decide, by decide, by decide +kernel⟩ ⟨by decide, by decide, rfl, rfl, by decide, by decide⟩ x0_e) (
  xval (s_aload_n (f := 0) (by decide +kernel) rfl) (
  xval (s_callV (i := 60) c_R_nextByte (by decide +kernel) rfl (xtt_good tw_708) rfl (tc tw_705) (tc tw_707) (tc ts_18) (tc tw_5) ⟨by decide, by decide, by decide +kernel⟩ ⟨by decide, by decide, rfl, rfl, by decide, by decide⟩ x0_e) (
  xval (s_istore (by decide +kernel) (by decide)) (
  xval (s_iconst (z := 0) (by decide +kernel) (by decide)) (
  xval (s_istore (by decide +kernel) (by decide)) (
  xval (s_iload (by decide +kernel)) (
  xval (s_iload (by decide +kernel)) (
  xval (s_icge (z := 18) (by decide +kernel) (by decide)) (
  xval (s_aload_n (f := 0) (by decide +kernel) rfl) (
  xval (s_callV (i := 67) c_R_placeMember (by decide +kernel) rfl (xtt_good tw_736) rfl (tc tw_733) (tc tw_735) (tc ts_24) (tc tw_5) ⟨by decide, by decide, by decide +kernel⟩ ⟨by decide, by decide, rfl, rfl, by decide, by decide⟩ x0_e) (
  xval (s_ifne (z := 5) (by decide +kernel) (by decide)) (
  xval (s_iconst (z := 0) (by decide +kernel) (by decide)) (
  xval (s_zret (by decide +kernel)) (
  xval (s_iinc (z := 1) (by decide +kernel) (by decide) (by decide)) (
  xval (s_goto (z := (-19)) (by decide +kernel) (by decide)) (
  xval (s_iconst (z := 1) (by decide +kernel) (by decide)) (
  xval (s_zret (by decide +kernel)) (
  xval_nil)))))))))))))))))))))))))))))))))))))))))))))))))))))))))))))
theorem c_R_placeClass : xMet xCl y_R_placeClass ws_R_placeClass rm_R_placeClass (xRun tb_R_placeClass 6) := xMet.of (by decide) rfl v_R_placeClass
def tb_B_isEqualTo : xT := [(0, o_aload 0 1), (1, o_getf 2 1), (4, o_aload 1 1), (5, o_getf 2 1), (8, o_icn (fun a b => a = b) 29), (11, o_aload 0 1), (12, o_i 0 1), (13, o_aload 1 1), (14, o_i 0 1), (15, o_aload 0 1), (16, o_getf 2 1), (19, o_callV (xRun tb_B_hasEqualBytes 6) 2 4 0 0), (22, o_if (fun a => a = 0) 29), (25, o_i 1 1), (26, o_goto 30), (29, o_i 0 1), (30, o_zret)]
abbrev y_B_isEqualTo : MethodName := ⟨"NameMover$ByteRow", "isEqualTo", "(LNameMover$ByteRow;)Z"⟩
abbrev rm_B_isEqualTo : Room := { frames := 2, cells := 0, slots := 0, locals := 46 }
abbrev ws_B_isEqualTo : List Cond := Cond.code y_B_isEqualTo prog_2_method_8_code 2 (some .boolean) :: xtt
set_option maxRecDepth 100000 in
theorem v_B_isEqualTo : ∀ q ∈ tb_B_isEqualTo, xSd (0, 0) x0 xCl "NameMover$ByteRow" ws_B_isEqualTo prog_2_method_8_code 2 (some .boolean) rm_B_isEqualTo q :=
  xval (s_aload_n (f := 0) (by decide +kernel) rfl) (
  xval (s_getf (i := 13) (by decide +kernel) rfl tin_B (by decide) (tc tw_97)) (
  xval (s_aload_n (f := 1) (by decide +kernel) rfl) (
  xval (s_getf (i := 13) (by decide +kernel) rfl tin_B (by decide) (tc tw_97)) (
  xval (s_icne (z := 21) (by decide +kernel) (by decide)) (
  xval (s_aload_n (f := 0) (by decide +kernel) rfl) (
  xval (s_iconst (z := 0) (by decide +kernel) (by decide)) (
  xval (s_aload_n (f := 1) (by decide +kernel) rfl) (
  xval (s_iconst (z := 0) (by decide +kernel) (by decide)) (
  xval (s_aload_n (f := 0) (by decide +kernel) rfl) (
  xval (s_getf (i := 13) (by decide +kernel) rfl tin_B (by decide) (tc tw_97)) (
  xval (s_callV (i := 30) c_B_hasEqualBytes (by decide +kernel) rfl (xtt_good tw_640) rfl (tc tw_758) (tc tw_638) (tc tw_639) (tc tw_3) ⟨by decide, by decide, by decide +kernel⟩ ⟨by decide, by decide, rfl, rfl, by decide, by decide⟩ x0_e) (
  xval (s_ifeq (z := 7) (by decide +kernel) (by decide)) (
  xval (s_iconst (z := 1) (by decide +kernel) (by decide)) (
  xval (s_goto (z := 4) (by decide +kernel) (by decide)) (
  xval (s_iconst (z := 0) (by decide +kernel) (by decide)) (
  xval (s_zret (by decide +kernel)) (
  xval_nil)))))))))))))))))
theorem c_B_isEqualTo : xMet xCl y_B_isEqualTo ws_B_isEqualTo rm_B_isEqualTo (xRun tb_B_isEqualTo 2) := xMet.of (by decide) rfl v_B_isEqualTo
def tb_N_isFileOfPlacedClass : xT := [(0, o_aload 0 1), (1, o_getf 0 4), (4, o_aload 0 1), (5, o_getf 0 0), (8, o_getf 1 10), (11, o_callV (xRun tb_W_compose 5) 3 1 0 0), (14, o_aload 0 1), (15, o_getf 0 2), (18, o_aload 0 1), (19, o_getf 0 1), (22, o_callV (xRun tb_B_isEqualTo 2) 2 1 0 0), (25, o_zret)]
abbrev y_N_isFileOfPlacedClass : MethodName := ⟨"NameMover", "isFileOfPlacedClass", "()Z"⟩
abbrev rm_N_isFileOfPlacedClass : Room := { frames := 5, cells := 0, slots := 0, locals := 118 }
abbrev ws_N_isFileOfPlacedClass : List Cond := Cond.code y_N_isFileOfPlacedClass prog_1_method_18_code 1 (some .boolean) :: xtt
set_option maxRecDepth 100000 in
theorem v_N_isFileOfPlacedClass : ∀ q ∈ tb_N_isFileOfPlacedClass, xSd (0, 0) x0 xCl "NameMover" ws_N_isFileOfPlacedClass prog_1_method_18_code 1 (some .boolean) rm_N_isFileOfPlacedClass q :=
  xval (s_aload_n (f := 0) (by decide +kernel) rfl) (
  xval (s_getf (i := 35) (by decide +kernel) rfl tin_N (by decide) (tc tw_154)) (
  xval (s_aload_n (f := 0) (by decide +kernel) rfl) (
  xval (s_getf (i := 10) (by decide +kernel) rfl tin_N (by decide) (tc tw_150)) (
  xval (s_getf (i := 74) (by decide +kernel) rfl tin_S (by decide) (tc tw_62)) (
  xval (s_callV (i := 186) c_W_compose (by decide +kernel) rfl (xtt_good tw_588) rfl (tc tw_585) (tc tw_586) (tc tw_587) (tc tw_4) ⟨by decide, by decide, by decide +kernel⟩ ⟨by decide, by decide, rfl, rfl, by decide, by decide⟩ x0_e) (
  xval (s_aload_n (f := 0) (by decide +kernel) rfl) (
  xval (s_getf (i := 23) (by decide +kernel) rfl tin_N (by decide) (tc tw_152)) (
  xval (s_aload_n (f := 0) (by decide +kernel) rfl) (
  xval (s_getf (i := 19) (by decide +kernel) rfl tin_N (by decide) (tc tw_151)) (
  xval (s_callV (i := 213) c_B_isEqualTo (by decide +kernel) rfl (xtt_good tw_757) rfl (tc tw_754) (tc tw_755) (tc tw_756) (tc tw_3) ⟨by decide, by decide, by decide +kernel⟩ ⟨by decide, by decide, rfl, rfl, by decide, by decide⟩ x0_e) (
  xval (s_zret (by decide +kernel)) (
  xval_nil))))))))))))
theorem c_N_isFileOfPlacedClass : xMet xCl y_N_isFileOfPlacedClass ws_N_isFileOfPlacedClass rm_N_isFileOfPlacedClass (xRun tb_N_isFileOfPlacedClass 1) := xMet.of (by decide) rfl v_N_isFileOfPlacedClass
def tb_N_load : xT := [(0, o_aload 0 1), (1, o_getf 0 0), (4, o_callV (xRun tb_S_isMoving 1) 1 0 1 0), (7, o_ifn (fun a => a = 0) 20), (10, o_aload 0 1), (11, o_getf 0 0), (14, o_callV (xRun tb_S_isFull 1) 1 0 1 0), (17, o_if (fun a => a = 0) 30), (20, o_throw 2 1), (30, o_aload 0 1), (31, o_getf 0 5), (34, o_callV (xRun tb_R_placeClass 6) 4 0 1 0), (37, o_if (fun a => a = 0) 47), (40, o_aload 0 1), (41, o_callV (xRun tb_N_isFileOfPlacedClass 1) 0 0 1 0), (44, o_ifn (fun a => a = 0) 57), (47, o_throw 0 1), (57, o_aload 0 1), (58, o_getf 0 0), (61, o_callV (xRun tb_S_countPlacedClass 1) 1 0 1 0), (64, o_iret)]
abbrev y_N_load : MethodName := ⟨"NameMover", "load", "()I"⟩
abbrev rm_N_load : Room := { frames := 6, cells := 1, slots := 6, locals := 149 }
abbrev ws_N_load : List Cond := Cond.code y_N_load prog_1_method_17_code 1 (some .int) :: xtt
set_option maxRecDepth 100000 in
theorem v_N_load : ∀ q ∈ tb_N_load, xSd (0, 0) x0 xCl "NameMover" ws_N_load prog_1_method_17_code 1 (some .int) rm_N_load q :=
  xval (s_aload_n (f := 0) (by decide +kernel) rfl) (
  xval (s_getf (i := 10) (by decide +kernel) rfl tin_N (by decide) (tc tw_150)) (
  xval (s_callV (i := 67) c_S_isMoving (by decide +kernel) rfl (xtt_good tw_368) rfl (tc tw_365) (tc tw_366) (tc tw_367) (tc tw_2) ⟨by decide, by decide, by decide +kernel⟩ ⟨by decide, by decide, rfl, rfl, by decide, by decide⟩ x0_e) (
  xval (s_ifne (z := 13) (by decide +kernel) (by decide)) (
  xval (s_aload_n (f := 0) (by decide +kernel) rfl) (
  xval (s_getf (i := 10) (by decide +kernel) rfl tin_N (by decide) (tc tw_150)) (
  xval (s_callV (i := 71) c_S_isFull (by decide +kernel) rfl (xtt_good tw_373) rfl (tc tw_370) (tc tw_371) (tc tw_372) (tc tw_2) ⟨by decide, by decide, by decide +kernel⟩ ⟨by decide, by decide, rfl, rfl, by decide, by decide⟩ x0_e) (
  xval (s_ifeq (z := 13) (by decide +kernel) (by decide)) (
  xval (s_throw (i := 82) (ik := 204) (ic := 86) (j := 7) (bs := prog_14_method_2_code) (tx := "moving, or 8 classes") (by decide +kernel) (by decide +kernel) (by decide +kernel) (by decide +kernel) (by decide +kernel) (tc tw_378) (tc tw_379) (tc tw_13) (tc tw_690) (by decide +kernel) (by decide +kernel) (by decide +kernel) (by decide +kernel) (by decide +kernel) (tow_2 (tc tw_388)) ⟨by decide, by decide, by decide, by decide⟩ x0_e) (
  xval (s_aload_n (f := 0) (by decide +kernel) rfl) (
  xval (s_getf (i := 41) (by decide +kernel) rfl tin_N (by decide) (tc tw_155)) (
  xval (s_callV (i := 206) c_R_placeClass (by decide +kernel) rfl (xtt_good tw_694) rfl (tc tw_691) (tc tw_692) (tc tw_693) (tc tw_5) ⟨by decide, by decide, by decide +kernel⟩ ⟨by decide, by decide, rfl, rfl, by decide, by decide⟩ x0_e) (
  xval (s_ifeq (z := 10) (by decide +kernel) (by decide)) (
  xval (s_aload_n (f := 0) (by decide +kernel) rfl) (
  xval (s_callV (i := 208) c_N_isFileOfPlacedClass (by decide +kernel) rfl (xtt_good tw_753) rfl (tc tw_750) (tc tw_752) (tc ts_27) (tc tw_1) ⟨by decide, by decide, by decide +kernel⟩ ⟨by decide, by decide, rfl, rfl, by decide, by decide⟩ x0_e) (
  xval (s_ifne (z := 13) (by decide +kernel) (by decide)) (
  xval (s_throw (i := 51) (ik := 211) (ic := 55) (j := 7) (bs := prog_13_method_2_code) (tx := "no class has this file") (by decide +kernel) (by decide +kernel) (by decide +kernel) (by decide +kernel) (by decide +kernel) (tc tw_279) (tc tw_280) (tc tw_11) (tc tw_759) (by decide +kernel) (by decide +kernel) (by decide +kernel) (by decide +kernel) (by decide +kernel) (tow_0 (tc tw_322)) ⟨by decide, by decide, by decide, by decide⟩ x0_e) (
  xval (s_aload_n (f := 0) (by decide +kernel) rfl) (
  xval (s_getf (i := 10) (by decide +kernel) rfl tin_N (by decide) (tc tw_150)) (
  xval (s_callV (i := 91) c_S_countPlacedClass (by decide +kernel) rfl (xtt_good tw_401) rfl (tc tw_398) (tc tw_399) (tc tw_400) (tc tw_2) ⟨by decide, by decide, by decide +kernel⟩ ⟨by decide, by decide, rfl, rfl, by decide, by decide⟩ x0_e) (
  xval (s_iret (by decide +kernel)) (
  xval_nil)))))))))))))))))))))
theorem c_N_load : xMet xCl y_N_load ws_N_load rm_N_load (xRun tb_N_load 1) := xMet.of (by decide) rfl v_N_load
def tb_M_thrown : xT := [(0, o_aload 0 1), (1, o_getf 5 0), (4, o_iret)]
abbrev y_M_thrown : MethodName := ⟨"NameMoverModel", "thrown", "()I"⟩
abbrev rm_M_thrown : Room := { frames := 0, cells := 0, slots := 0, locals := 0 }
abbrev ws_M_thrown : List Cond := Cond.code y_M_thrown prog_11_method_2_code 1 (some .int) :: xtt
set_option maxRecDepth 100000 in
theorem v_M_thrown : ∀ q ∈ tb_M_thrown, xSd (0, 0) x0 xCl "NameMoverModel" ws_M_thrown prog_11_method_2_code 1 (some .int) rm_M_thrown q :=
  xval (s_aload_n (f := 0) (by decide +kernel) rfl) (
  xval (s_getf (i := 60) (by decide +kernel) rfl tin_M (by decide) (tc tw_766)) (
  xval (s_iret (by decide +kernel)) (
  xval_nil)))
theorem c_M_thrown : xMet xCl y_M_thrown ws_M_thrown rm_M_thrown (xRun tb_M_thrown 1) := xMet.of (by decide) rfl v_M_thrown
def tb_M_charAt : xT := [(0, o_lload 0 1), (1, o_i 8 2), (3, o_iload 2 1), (4, o_ii (fun a b => a * b)), (5, o_li xushr), (6, o_l 255 3), (9, o_ll (fun a b => a &&& b)), (10, o_l2i), (11, o_iret)]
abbrev y_M_charAt : MethodName := ⟨"NameMoverModel", "charAt", "(JI)I"⟩
abbrev rm_M_charAt : Room := { frames := 0, cells := 0, slots := 0, locals := 0 }
abbrev ws_M_charAt : List Cond := Cond.code y_M_charAt prog_11_method_3_code 3 (some .int) :: xtt
set_option maxRecDepth 100000 in
theorem v_M_charAt : ∀ q ∈ tb_M_charAt, xSd (0, 0) x0 xCl "NameMoverModel" ws_M_charAt prog_11_method_3_code 3 (some .int) rm_M_charAt q :=
  xval (s_lload_n (f := 0) (by decide +kernel) rfl) (
  xval (s_bipush (z := 8) (by decide +kernel) (by decide)) (
  xval (s_iload_n (f := 2) (by decide +kernel) rfl) (
  xval (s_imul (by decide +kernel)) (
  xval (s_lushr (by decide +kernel)) (
  xval (s_ldc2 (i := 64) (by decide +kernel) (tc tw_853)) (
  xval (s_land (by decide +kernel)) (
  xval (s_l2i (by decide +kernel)) (
  xval (s_iret (by decide +kernel)) (
  xval_nil)))))))))
theorem c_M_charAt : xMet xCl y_M_charAt ws_M_charAt rm_M_charAt (xRun tb_M_charAt 3) := xMet.of (by decide) rfl v_M_charAt
def tb_M_length : xT := [(0, o_i 0 1), (1, o_istore 2 1), (2, o_iload 2 1), (3, o_i 8 2), (5, o_ic (fun a b => b ≤ a) 22), (8, o_lload 0 1), (9, o_iload 2 1), (10, o_call (xRun tb_M_charAt 3) 2 0 0), (13, o_if (fun a => a = 0) 22), (16, o_iinc 2 1), (19, o_goto 2), (22, o_iload 2 1), (23, o_iret)]
abbrev y_M_length : MethodName := ⟨"NameMoverModel", "length", "(J)I"⟩
abbrev rm_M_length : Room := { frames := 1, cells := 0, slots := 0, locals := 22 }
abbrev ws_M_length : List Cond := Cond.code y_M_length prog_11_method_4_code 3 (some .int) :: xtt
set_option maxRecDepth 100000 in
theorem v_M_length : ∀ q ∈ tb_M_length, xSd (0, 0) x0 xCl "NameMoverModel" ws_M_length prog_11_method_4_code 3 (some .int) rm_M_length q :=
  xval (s_iconst (z := 0) (by decide +kernel) (by decide)) (
  xval (s_istore_n (f := 2) (by decide +kernel) rfl (by decide)) (
  xval (s_iload_n (f := 2) (by decide +kernel) rfl) (
  xval (s_bipush (z := 8) (by decide +kernel) (by decide)) (
  xval (s_icge (z := 17) (by decide +kernel) (by decide)) (
  xval (s_lload_n (f := 0) (by decide +kernel) rfl) (
  xval (s_iload_n (f := 2) (by decide +kernel) rfl) (
  xval (s_callS (i := 66) c_M_charAt (by decide +kernel) rfl (xtt_good tw_852) (tc tw_850) (tc tw_851) (tc tw_6) ⟨by decide, by decide, by decide +kernel⟩ ⟨by decide, by decide, rfl, rfl, by decide, by decide⟩ x0_e) (
  xval (s_ifeq (z := 9) (by decide +kernel) (by decide)) (
  xval (s_iinc (z := 1) (by decide +kernel) (by decide) (by decide)) (
  xval (s_goto (z := (-17)) (by decide +kernel) (by decide)) (
  xval (s_iload_n (f := 2) (by decide +kernel) rfl) (
  xval (s_iret (by decide +kernel)) (
  xval_nil)))))))))))))
theorem c_M_length : xMet xCl y_M_length ws_M_length rm_M_length (xRun tb_M_length 3) := xMet.of (by decide) rfl v_M_length
def tb_M_isText : xT := [(0, o_lload 0 1), (1, o_call (xRun tb_M_length 3) 1 0 0), (4, o_istore 2 1), (5, o_i 1 1), (6, o_istore 3 1), (7, o_iload 2 1), (8, o_istore 4 2), (10, o_iload 4 2), (12, o_i 8 2), (14, o_ic (fun a b => b ≤ a) 42), (17, o_iload 3 1), (18, o_if (fun a => a = 0) 34), (21, o_lload 0 1), (22, o_iload 4 2), (24, o_call (xRun tb_M_charAt 3) 2 0 0), (27, o_ifn (fun a => a = 0) 34), (30, o_i 1 1), (31, o_goto 35), (34, o_i 0 1), (35, o_istore 3 1), (36, o_iinc 4 1), (39, o_goto 10), (42, o_iload 3 1), (43, o_zret)]
abbrev y_M_isText : MethodName := ⟨"NameMoverModel", "isText", "(J)Z"⟩
abbrev rm_M_isText : Room := { frames := 2, cells := 0, slots := 0, locals := 44 }
abbrev ws_M_isText : List Cond := Cond.code y_M_isText prog_11_method_5_code 5 (some .boolean) :: xtt
set_option maxRecDepth 100000 in
theorem v_M_isText : ∀ q ∈ tb_M_isText, xSd (0, 0) x0 xCl "NameMoverModel" ws_M_isText prog_11_method_5_code 5 (some .boolean) rm_M_isText q :=
  xval (s_lload_n (f := 0) (by decide +kernel) rfl) (
  xval (s_callS (i := 70) c_M_length (by decide +kernel) rfl (xtt_good tw_849) (tc tw_847) (tc tw_848) (tc tw_6) ⟨by decide, by decide, by decide +kernel⟩ ⟨by decide, by decide, rfl, rfl, by decide, by decide⟩ x0_e) (
  xval (s_istore_n (f := 2) (by decide +kernel) rfl (by decide)) (
  xval (s_iconst (z := 1) (by decide +kernel) (by decide)) (
  xval (s_istore_n (f := 3) (by decide +kernel) rfl (by decide)) (
  xval (s_iload_n (f := 2) (by decide +kernel) rfl) (
  xval (s_istore (by decide +kernel) (by decide)) (
  xval (s_iload (by decide +kernel)) (
  xval (s_bipush (z := 8) (by decide +kernel) (by decide)) (
  xval (s_icge (z := 28) (by decide +kernel) (by decide)) (
  xval (s_iload_n (f := 3) (by decide +kernel) rfl) (
  xval (s_ifeq (z := 16) (by decide +kernel) (by decide)) (
  xval (s_lload_n (f := 0) (by decide +kernel) rfl) (
  xval (s_iload (by decide +kernel)) (
  xval (s_callS (i := 66) c_M_charAt (by decide +kernel) rfl (xtt_good tw_852) (tc tw_850) (tc tw_851) (tc tw_6) ⟨by decide, by decide, by decide +kernel⟩ ⟨by decide, by decide, rfl, rfl, by decide, by decide⟩ x0_e) (
  xval (s_ifne (z := 7) (by decide +kernel) (by decide)) (
  xval (s_iconst (z := 1) (by decide +kernel) (by decide)) (
  xval (s_goto (z := 4) (by decide +kernel) (by decide)) (
  xval (s_iconst (z := 0) (by decide +kernel) (by decide)) (
  xval (s_istore_n (f := 3) (by decide +kernel) rfl (by decide)) (
  xval (s_iinc (z := 1) (by decide +kernel) (by decide) (by decide)) (
  xval (s_goto (z := (-29)) (by decide +kernel) (by decide)) (
  xval (s_iload_n (f := 3) (by decide +kernel) rfl) (
  xval (s_zret (by decide +kernel)) (
  xval_nil))))))))))))))))))))))))
theorem c_M_isText : xMet xCl y_M_isText ws_M_isText rm_M_isText (xRun tb_M_isText 5) := xMet.of (by decide) rfl v_M_isText
def tb_M_isLetter : xT := [(0, o_iload 0 1), (1, o_i 97 2), (3, o_ic (fun a b => a < b) 12), (6, o_iload 0 1), (7, o_i 122 2), (9, o_ic (fun a b => a ≤ b) 24), (12, o_iload 0 1), (13, o_i 65 2), (15, o_ic (fun a b => a < b) 28), (18, o_iload 0 1), (19, o_i 90 2), (21, o_ic (fun a b => b < a) 28), (24, o_i 1 1), (25, o_goto 29), (28, o_i 0 1), (29, o_zret)]
abbrev y_M_isLetter : MethodName := ⟨"NameMoverModel", "isLetter", "(I)Z"⟩
abbrev rm_M_isLetter : Room := { frames := 0, cells := 0, slots := 0, locals := 0 }
abbrev ws_M_isLetter : List Cond := Cond.code y_M_isLetter prog_11_method_6_code 1 (some .boolean) :: xtt
set_option maxRecDepth 100000 in
theorem v_M_isLetter : ∀ q ∈ tb_M_isLetter, xSd (0, 0) x0 xCl "NameMoverModel" ws_M_isLetter prog_11_method_6_code 1 (some .boolean) rm_M_isLetter q :=
  xval (s_iload_n (f := 0) (by decide +kernel) rfl) (
  xval (s_bipush (z := 97) (by decide +kernel) (by decide)) (
  xval (s_iclt (z := 9) (by decide +kernel) (by decide)) (
  xval (s_iload_n (f := 0) (by decide +kernel) rfl) (
  xval (s_bipush (z := 122) (by decide +kernel) (by decide)) (
  xval (s_icle (z := 15) (by decide +kernel) (by decide)) (
  xval (s_iload_n (f := 0) (by decide +kernel) rfl) (
  xval (s_bipush (z := 65) (by decide +kernel) (by decide)) (
  xval (s_iclt (z := 13) (by decide +kernel) (by decide)) (
  xval (s_iload_n (f := 0) (by decide +kernel) rfl) (
  xval (s_bipush (z := 90) (by decide +kernel) (by decide)) (
  xval (s_icgt (z := 7) (by decide +kernel) (by decide)) (
  xval (s_iconst (z := 1) (by decide +kernel) (by decide)) (
  xval (s_goto (z := 4) (by decide +kernel) (by decide)) (
  xval (s_iconst (z := 0) (by decide +kernel) (by decide)) (
  xval (s_zret (by decide +kernel)) (
  xval_nil))))))))))))))))
theorem c_M_isLetter : xMet xCl y_M_isLetter ws_M_isLetter rm_M_isLetter (xRun tb_M_isLetter 1) := xMet.of (by decide) rfl v_M_isLetter
def tb_M_isDigit : xT := [(0, o_iload 0 1), (1, o_i 48 2), (3, o_ic (fun a b => a < b) 16), (6, o_iload 0 1), (7, o_i 57 2), (9, o_ic (fun a b => b < a) 16), (12, o_i 1 1), (13, o_goto 17), (16, o_i 0 1), (17, o_zret)]
abbrev y_M_isDigit : MethodName := ⟨"NameMoverModel", "isDigit", "(I)Z"⟩
abbrev rm_M_isDigit : Room := { frames := 0, cells := 0, slots := 0, locals := 0 }
abbrev ws_M_isDigit : List Cond := Cond.code y_M_isDigit prog_11_method_7_code 1 (some .boolean) :: xtt
set_option maxRecDepth 100000 in
theorem v_M_isDigit : ∀ q ∈ tb_M_isDigit, xSd (0, 0) x0 xCl "NameMoverModel" ws_M_isDigit prog_11_method_7_code 1 (some .boolean) rm_M_isDigit q :=
  xval (s_iload_n (f := 0) (by decide +kernel) rfl) (
  xval (s_bipush (z := 48) (by decide +kernel) (by decide)) (
  xval (s_iclt (z := 13) (by decide +kernel) (by decide)) (
  xval (s_iload_n (f := 0) (by decide +kernel) rfl) (
  xval (s_bipush (z := 57) (by decide +kernel) (by decide)) (
  xval (s_icgt (z := 7) (by decide +kernel) (by decide)) (
  xval (s_iconst (z := 1) (by decide +kernel) (by decide)) (
  xval (s_goto (z := 4) (by decide +kernel) (by decide)) (
  xval (s_iconst (z := 0) (by decide +kernel) (by decide)) (
  xval (s_zret (by decide +kernel)) (
  xval_nil))))))))))
theorem c_M_isDigit : xMet xCl y_M_isDigit ws_M_isDigit rm_M_isDigit (xRun tb_M_isDigit 1) := xMet.of (by decide) rfl v_M_isDigit
def tb_M_isName : xT := [(0, o_lload 0 1), (1, o_call (xRun tb_M_length 3) 1 0 0), (4, o_istore 3 1), (5, o_lload 0 1), (6, o_call (xRun tb_M_isText 5) 1 0 0), (9, o_if (fun a => a = 0) 20), (12, o_iload 3 1), (13, o_if (fun a => a ≤ 0) 20), (16, o_i 1 1), (17, o_goto 21), (20, o_i 0 1), (21, o_istore 4 2), (23, o_i 1 1), (24, o_istore 5 2), (26, o_i 0 1), (27, o_istore 6 2), (29, o_iload 6 2), (31, o_iload 3 1), (32, o_ic (fun a b => b ≤ a) 119), (35, o_lload 0 1), (36, o_iload 6 2), (38, o_call (xRun tb_M_charAt 3) 2 0 0), (41, o_istore 7 2), (43, o_iload 7 2), (45, o_i 47 2), (47, o_icn (fun a b => a = b) 77), (50, o_iload 4 2), (52, o_if (fun a => a = 0) 68), (55, o_iload 5 2), (57, o_ifn (fun a => a = 0) 68), (60, o_iload 2 1), (61, o_ifn (fun a => a = 0) 68), (64, o_i 1 1), (65, o_goto 69), (68, o_i 0 1), (69, o_istore 4 2), (71, o_i 1 1), (72, o_istore 5 2), (74, o_goto 113), (77, o_iload 4 2), (79, o_if (fun a => a = 0) 107), (82, o_iload 7 2), (84, o_call (xRun tb_M_isLetter 1) 1 0 0), (87, o_ifn (fun a => a = 0) 103), (90, o_iload 7 2), (92, o_call (xRun tb_M_isDigit 1) 1 0 0), (95, o_if (fun a => a = 0) 107), (98, o_iload 5 2), (100, o_ifn (fun a => a = 0) 107), (103, o_i 1 1), (104, o_goto 108), (107, o_i 0 1), (108, o_istore 4 2), (110, o_i 0 1), (111, o_istore 5 2), (113, o_iinc 6 1), (116, o_goto 29), (119, o_iload 4 2), (121, o_if (fun a => a = 0) 133), (124, o_iload 5 2), (126, o_ifn (fun a => a = 0) 133), (129, o_i 1 1), (130, o_goto 134), (133, o_i 0 1), (134, o_zret)]
abbrev y_M_isName : MethodName := ⟨"NameMoverModel", "isName", "(JZ)Z"⟩
abbrev rm_M_isName : Room := { frames := 3, cells := 0, slots := 0, locals := 68 }
abbrev ws_M_isName : List Cond := Cond.code y_M_isName prog_11_method_8_code 8 (some .boolean) :: xtt
set_option maxRecDepth 100000 in
theorem v_M_isName : ∀ q ∈ tb_M_isName, xSd (0, 0) x0 xCl "NameMoverModel" ws_M_isName prog_11_method_8_code 8 (some .boolean) rm_M_isName q :=
  xval (s_lload_n (f := 0) (by decide +kernel) rfl) (
  xval (s_callS (i := 70) c_M_length (by decide +kernel) rfl (xtt_good tw_849) (tc tw_847) (tc tw_848) (tc tw_6) ⟨by decide, by decide, by decide +kernel⟩ ⟨by decide, by decide, rfl, rfl, by decide, by decide⟩ x0_e) (
  xval (s_istore_n (f := 3) (by decide +kernel) rfl (by decide)) (
  xval (s_lload_n (f := 0) (by decide +kernel) rfl) (
  xval (s_callS (i := 74) c_M_isText (by decide +kernel) rfl (xtt_good tw_856) (tc tw_854) (tc tw_855) (tc tw_6) ⟨by decide, by decide, by decide +kernel⟩ ⟨by decide, by decide, rfl, rfl, by decide, by decide⟩ x0_e) (
  xval (s_ifeq (z := 11) (by decide +kernel) (by decide)) (
  xval (s_iload_n (f := 3) (by decide +kernel) rfl) (
  xval (s_ifle (z := 7) (by decide +kernel) (by decide)) (
  xval (s_iconst (z := 1) (by decide +kernel) (by decide)) (
  xval (s_goto (z := 4) (by decide +kernel) (by decide)) (
  xval (s_iconst (z := 0) (by decide +kernel) (by decide)) (
  xval (s_istore (by decide +kernel) (by decide)) (
  xval (s_iconst (z := 1) (by decide +kernel) (by decide)) (
  xval (s_istore (by decide +kernel) (by decide)) (
  xval (s_iconst (z := 0) (by decide +kernel) (by decide)) (
  xval (s_istore (by decide +kernel) (by decide)) (
  xval (s_iload (by decide +kernel)) (
  xval (s_iload_n (f := 3) (by decide +kernel) rfl) (
  xval (s_icge (z := 87) (by decide +kernel) (by decide)) (
  xval (s_lload_n (f := 0) (by decide +kernel) rfl) (
  xval (s_iload (by decide +kernel)) (
  xval (s_callS (i := 66) c_M_charAt (by decide +kernel) rfl (xtt_good tw_852) (tc tw_850) (tc tw_851) (tc tw_6) ⟨by decide, by decide, by decide +kernel⟩ ⟨by decide, by decide, rfl, rfl, by decide, by decide⟩ x0_e) (
  xval (s_istore (by decide +kernel) (by decide)) (
  xval (s_iload (by decide +kernel)) (
  xval (s_bipush (z := 47) (by decide +kernel) (by decide)) (
  xval (s_icne (z := 30) (by decide +kernel) (by decide)) (
  xval (s_iload (by decide +kernel)) (
  xval (s_ifeq (z := 16) (by decide +kernel) (by decide)) (
  xval (s_iload (by decide +kernel)) (
  xval (s_ifne (z := 11) (by decide +kernel) (by decide)) (
  xval (s_iload_n (f := 2) (by decide +kernel) rfl) (
  xval (s_ifne (z := 7) (by decide +kernel) (by decide)) (
  xval (s_iconst (z := 1) (by decide +kernel) (by decide)) (
  xval (s_goto (z := 4) (by decide +kernel) (by decide)) (
  xval (s_iconst (z := 0) (by decide +kernel) (by decide)) (
  xval (s_istore (by decide +kernel) (by decide)) (
  xval (s_iconst (z := 1) (by decide +kernel) (by decide)) (
  xval (s_istore (by decide +kernel) (by decide)) (
  xval (s_goto (z := 39) (by decide +kernel) (by decide)) (
  xval (s_iload (by decide +kernel)) (
  xval (s_ifeq (z := 28) (by decide +kernel) (by decide)) (
  xval (s_iload (by decide +kernel)) (
  xval (s_callS (i := 78) c_M_isLetter (by decide +kernel) rfl (xtt_good tw_859) (tc tw_857) (tc tw_858) (tc tw_6) ⟨by decide, by decide, by decide +kernel⟩ ⟨by decide, by decide, rfl, rfl, by decide, by decide⟩ x0_e) (
  xval (s_ifne (z := 16) (by decide +kernel) (by decide)) (
  xval (s_iload (by decide +kernel)) (
  xval (s_callS (i := 82) c_M_isDigit (by decide +kernel) rfl (xtt_good tw_862) (tc tw_860) (tc tw_861) (tc tw_6) ⟨by decide, by decide, by decide +kernel⟩ ⟨by decide, by decide, rfl, rfl, by decide, by decide⟩ x0_e) (
  xval (s_ifeq (z := 12) (by decide +kernel) (by decide)) (
  xval (s_iload (by decide +kernel)) (
  xval (s_ifne (z := 7) (by decide +kernel) (by decide)) (
  xval (s_iconst (z := 1) (by decide +kernel) (by decide)) (
  xval (s_goto (z := 4) (by decide +kernel) (by decide)) (
  xval (s_iconst (z := 0) (by decide +kernel) (by decide)) (
  xval (s_istore (by decide +kernel) (by decide)) (
  xval (s_iconst (z := 0) (by decide +kernel) (by decide)) (
  xval (s_istore (by decide +kernel) (by decide)) (
  xval (s_iinc (z := 1) (by decide +kernel) (by decide) (by decide)) (
  xval (s_goto (z := (-87)) (by decide +kernel) (by decide)) (
  xval (s_iload (by decide +kernel)) (
  xval (s_ifeq (z := 12) (by decide +kernel) (by decide)) (
  xval (s_iload (by decide +kernel)) (
  xval (s_ifne (z := 7) (by decide +kernel) (by decide)) (
  xval (s_iconst (z := 1) (by decide +kernel) (by decide)) (
  xval (s_goto (z := 4) (by decide +kernel) (by decide)) (
  xval (s_iconst (z := 0) (by decide +kernel) (by decide)) (
  xval (s_zret (by decide +kernel)) (
  xval_nil)))))))))))))))))))))))))))))))))))))))))))))))))))))))))))))))))
theorem c_M_isName : xMet xCl y_M_isName ws_M_isName rm_M_isName (xRun tb_M_isName 8) := xMet.of (by decide) rfl v_M_isName
def tb_M_lastPart : xT := [(0, o_i 0 1), (1, o_istore 2 1), (2, o_i 0 1), (3, o_istore 3 1), (4, o_iload 3 1), (5, o_i 8 2), (7, o_ic (fun a b => b ≤ a) 34), (10, o_lload 0 1), (11, o_iload 3 1), (12, o_call (xRun tb_M_charAt 3) 2 0 0), (15, o_i 47 2), (17, o_icn (fun a b => a = b) 26), (20, o_iload 3 1), (21, o_i 1 1), (22, o_ii (fun a b => a + b)), (23, o_goto 27), (26, o_iload 2 1), (27, o_istore 2 1), (28, o_iinc 3 1), (31, o_goto 4), (34, o_iload 2 1), (35, o_iret)]
abbrev y_M_lastPart : MethodName := ⟨"NameMoverModel", "lastPart", "(J)I"⟩
abbrev rm_M_lastPart : Room := { frames := 1, cells := 0, slots := 0, locals := 22 }
abbrev ws_M_lastPart : List Cond := Cond.code y_M_lastPart prog_11_method_9_code 4 (some .int) :: xtt
set_option maxRecDepth 100000 in
theorem v_M_lastPart : ∀ q ∈ tb_M_lastPart, xSd (0, 0) x0 xCl "NameMoverModel" ws_M_lastPart prog_11_method_9_code 4 (some .int) rm_M_lastPart q :=
  xval (s_iconst (z := 0) (by decide +kernel) (by decide)) (
  xval (s_istore_n (f := 2) (by decide +kernel) rfl (by decide)) (
  xval (s_iconst (z := 0) (by decide +kernel) (by decide)) (
  xval (s_istore_n (f := 3) (by decide +kernel) rfl (by decide)) (
  xval (s_iload_n (f := 3) (by decide +kernel) rfl) (
  xval (s_bipush (z := 8) (by decide +kernel) (by decide)) (
  xval (s_icge (z := 27) (by decide +kernel) (by decide)) (
  xval (s_lload_n (f := 0) (by decide +kernel) rfl) (
  xval (s_iload_n (f := 3) (by decide +kernel) rfl) (
  xval (s_callS (i := 66) c_M_charAt (by decide +kernel) rfl (xtt_good tw_852) (tc tw_850) (tc tw_851) (tc tw_6) ⟨by decide, by decide, by decide +kernel⟩ ⟨by decide, by decide, rfl, rfl, by decide, by decide⟩ x0_e) (
  xval (s_bipush (z := 47) (by decide +kernel) (by decide)) (
  xval (s_icne (z := 9) (by decide +kernel) (by decide)) (
  xval (s_iload_n (f := 3) (by decide +kernel) rfl) (
  xval (s_iconst (z := 1) (by decide +kernel) (by decide)) (
  xval (s_iadd (by decide +kernel)) (
  xval (s_goto (z := 4) (by decide +kernel) (by decide)) (
  xval (s_iload_n (f := 2) (by decide +kernel) rfl) (
  xval (s_istore_n (f := 2) (by decide +kernel) rfl (by decide)) (
  xval (s_iinc (z := 1) (by decide +kernel) (by decide) (by decide)) (
  xval (s_goto (z := (-27)) (by decide +kernel) (by decide)) (
  xval (s_iload_n (f := 2) (by decide +kernel) rfl) (
  xval (s_iret (by decide +kernel)) (
  xval_nil))))))))))))))))))))))
theorem c_M_lastPart : xMet xCl y_M_lastPart ws_M_lastPart rm_M_lastPart (xRun tb_M_lastPart 4) := xMet.of (by decide) rfl v_M_lastPart
def tb_M_front : xT := [(0, o_l 0 1), (1, o_lstore 3 1), (2, o_i 0 1), (3, o_istore 5 2), (5, o_iload 5 2), (7, o_iload 2 1), (8, o_ic (fun a b => b ≤ a) 31), (11, o_lload 3 1), (12, o_lload 0 1), (13, o_l 255 3), (16, o_i 8 2), (18, o_iload 5 2), (20, o_ii (fun a b => a * b)), (21, o_li xshl), (22, o_ll (fun a b => a &&& b)), (23, o_ll (fun a b => a ||| b)), (24, o_lstore 3 1), (25, o_iinc 5 1), (28, o_goto 5), (31, o_lload 3 1), (32, o_lret)]
abbrev y_M_front : MethodName := ⟨"NameMoverModel", "front", "(JI)J"⟩
abbrev rm_M_front : Room := { frames := 0, cells := 0, slots := 0, locals := 0 }
abbrev ws_M_front : List Cond := Cond.code y_M_front prog_11_method_10_code 6 (some .long) :: xtt
set_option maxRecDepth 100000 in
theorem v_M_front : ∀ q ∈ tb_M_front, xSd (0, 0) x0 xCl "NameMoverModel" ws_M_front prog_11_method_10_code 6 (some .long) rm_M_front q :=
  xval (s_lconst (z := 0) (by decide +kernel) (by decide)) (
  xval (s_lstore_n (f := 3) (by decide +kernel) rfl (by decide)) (
  xval (s_iconst (z := 0) (by decide +kernel) (by decide)) (
  xval (s_istore (by decide +kernel) (by decide)) (
  xval (s_iload (by decide +kernel)) (
  xval (s_iload_n (f := 2) (by decide +kernel) rfl) (
  xval (s_icge (z := 23) (by decide +kernel) (by decide)) (
  xval (s_lload_n (f := 3) (by decide +kernel) rfl) (
  xval (s_lload_n (f := 0) (by decide +kernel) rfl) (
  xval (s_ldc2 (i := 64) (by decide +kernel) (tc tw_853)) (
  xval (s_bipush (z := 8) (by decide +kernel) (by decide)) (
  xval (s_iload (by decide +kernel)) (
  xval (s_imul (by decide +kernel)) (
  xval (s_lshl (by decide +kernel)) (
  xval (s_land (by decide +kernel)) (
  xval (s_lor (by decide +kernel)) (
  xval (s_lstore_n (f := 3) (by decide +kernel) rfl (by decide)) (
  xval (s_iinc (z := 1) (by decide +kernel) (by decide) (by decide)) (
  xval (s_goto (z := (-23)) (by decide +kernel) (by decide)) (
  xval (s_lload_n (f := 3) (by decide +kernel) rfl) (
  xval (s_lret (by decide +kernel)) (
  xval_nil)))))))))))))))))))))
theorem c_M_front : xMet xCl y_M_front ws_M_front rm_M_front (xRun tb_M_front 6) := xMet.of (by decide) rfl v_M_front
def tb_M_packageOf : xT := [(0, o_lload 0 1), (1, o_call (xRun tb_M_lastPart 4) 1 0 0), (4, o_istore 2 1), (5, o_lload 0 1), (6, o_iload 2 1), (7, o_i 1 1), (8, o_ic (fun a b => b ≤ a) 15), (11, o_i 0 1), (12, o_goto 18), (15, o_iload 2 1), (16, o_i 1 1), (17, o_ii (fun a b => a - b)), (18, o_call (xRun tb_M_front 6) 2 0 0), (21, o_lret)]
abbrev y_M_packageOf : MethodName := ⟨"NameMoverModel", "packageOf", "(J)J"⟩
abbrev rm_M_packageOf : Room := { frames := 2, cells := 0, slots := 0, locals := 45 }
abbrev ws_M_packageOf : List Cond := Cond.code y_M_packageOf prog_11_method_11_code 3 (some .long) :: xtt
set_option maxRecDepth 100000 in
theorem v_M_packageOf : ∀ q ∈ tb_M_packageOf, xSd (0, 0) x0 xCl "NameMoverModel" ws_M_packageOf prog_11_method_11_code 3 (some .long) rm_M_packageOf q :=
  xval (s_lload_n (f := 0) (by decide +kernel) rfl) (
  xval (s_callS (i := 85) c_M_lastPart (by decide +kernel) rfl (xtt_good tw_912) (tc tw_910) (tc tw_911) (tc tw_6) ⟨by decide, by decide, by decide +kernel⟩ ⟨by decide, by decide, rfl, rfl, by decide, by decide⟩ x0_e) (
  xval (s_istore_n (f := 2) (by decide +kernel) rfl (by decide)) (
  xval (s_lload_n (f := 0) (by decide +kernel) rfl) (
  xval (s_iload_n (f := 2) (by decide +kernel) rfl) (
  xval (s_iconst (z := 1) (by decide +kernel) (by decide)) (
  xval (s_icge (z := 7) (by decide +kernel) (by decide)) (
  xval (s_iconst (z := 0) (by decide +kernel) (by decide)) (
  xval (s_goto (z := 6) (by decide +kernel) (by decide)) (
  xval (s_iload_n (f := 2) (by decide +kernel) rfl) (
  xval (s_iconst (z := 1) (by decide +kernel) (by decide)) (
  xval (s_isub (by decide +kernel)) (
  xval (s_callS (i := 88) c_M_front (by decide +kernel) rfl (xtt_good tw_915) (tc tw_913) (tc tw_914) (tc tw_6) ⟨by decide, by decide, by decide +kernel⟩ ⟨by decide, by decide, rfl, rfl, by decide, by decide⟩ x0_e) (
  xval (s_lret (by decide +kernel)) (
  xval_nil))))))))))))))
theorem c_M_packageOf : xMet xCl y_M_packageOf ws_M_packageOf rm_M_packageOf (xRun tb_M_packageOf 3) := xMet.of (by decide) rfl v_M_packageOf
def tb_M_type : xT := [(0, o_aload 0 1), (1, o_getf 5 22), (4, o_i 8 2), (6, o_ic (fun a b => b ≤ a) 35), (9, o_lload 1 1), (10, o_aload 0 1), (11, o_getf 5 22), (14, o_call (xRun tb_M_charAt 3) 2 0 0), (17, o_i 91 2), (19, o_icn (fun a b => a = b) 35), (22, o_aload 0 1), (23, o_dup), (24, o_getf 5 22), (27, o_i 1 1), (28, o_ii (fun a b => a + b)), (29, o_puti 5 22), (32, o_goto 0), (35, o_aload 0 1), (36, o_getf 5 22), (39, o_i 8 2), (41, o_ic (fun a b => a < b) 46), (44, o_i 0 1), (45, o_zret), (46, o_lload 1 1), (47, o_aload 0 1), (48, o_getf 5 22), (51, o_call (xRun tb_M_charAt 3) 2 0 0), (54, o_istore 4 2), (56, o_aload 0 1), (57, o_dup), (58, o_getf 5 22), (61, o_i 1 1), (62, o_ii (fun a b => a + b)), (63, o_puti 5 22), (66, o_iload 4 2), (68, o_i 73 2), (70, o_ic (fun a b => a = b) 103), (73, o_iload 4 2), (75, o_i 74 2), (77, o_ic (fun a b => a = b) 103), (80, o_iload 4 2), (82, o_i 90 2), (84, o_ic (fun a b => a = b) 103), (87, o_iload 4 2), (89, o_i 48 2), (91, o_ic (fun a b => a < b) 107), (94, o_iload 4 2), (96, o_i 48 2), (98, o_iload 3 1), (99, o_ii (fun a b => a + b)), (100, o_ic (fun a b => b ≤ a) 107), (103, o_i 1 1), (104, o_goto 108), (107, o_i 0 1), (108, o_zret)]
abbrev y_M_type : MethodName := ⟨"NameMoverModel", "type", "(JI)Z"⟩
abbrev rm_M_type : Room := { frames := 1, cells := 0, slots := 0, locals := 22 }
abbrev ws_M_type : List Cond := Cond.code y_M_type prog_11_method_12_code 5 (some .boolean) :: xtt
set_option maxRecDepth 100000 in
theorem v_M_type : ∀ q ∈ tb_M_type, xSd (0, 0) x0 xCl "NameMoverModel" ws_M_type prog_11_method_12_code 5 (some .boolean) rm_M_type q :=
  xval (s_aload_n (f := 0) (by decide +kernel) rfl) (
  xval (s_getf (i := 92) (by decide +kernel) rfl tin_M (by decide) (tc tw_788)) (
  xval (s_bipush (z := 8) (by decide +kernel) (by decide)) (
  xval (s_icge (z := 29) (by decide +kernel) (by decide)) (
  xval (s_lload_n (f := 1) (by decide +kernel) rfl) (
  xval (s_aload_n (f := 0) (by decide +kernel) rfl) (
  xval (s_getf (i := 92) (by decide +kernel) rfl tin_M (by decide) (tc tw_788)) (
  xval (s_callS (i := 66) c_M_charAt (by decide +kernel) rfl (xtt_good tw_852) (tc tw_850) (tc tw_851) (tc tw_6) ⟨by decide, by decide, by decide +kernel⟩ ⟨by decide, by decide, rfl, rfl, by decide, by decide⟩ x0_e) (
  xval (s_bipush (z := 91) (by decide +kernel) (by decide)) (
  xval (s_icne (z := 16) (by decide +kernel) (by decide)) (
  xval (s_aload_n (f := 0) (by decide +kernel) rfl) (
  xval (s_dup (by decide +kernel)) (
  xval (s_getf (i := 92) (by decide +kernel) rfl tin_M (by decide) (tc tw_788)) (
  xval (s_iconst (z := 1) (by decide +kernel) (by decide)) (
  xval (s_iadd (by decide +kernel)) (
  xval (s_puti (i := 92) (by decide +kernel) rfl tin_M (by decide) (tc tw_788) tM tM_ok nM rfl (by decide +kernel)) (
  xval (s_goto (z := (-32)) (by decide +kernel) (by decide)) (
  xval (s_aload_n (f := 0) (by decide +kernel) rfl) (
  xval (s_getf (i := 92) (by decide +kernel) rfl tin_M (by decide) (tc tw_788)) (
  xval (s_bipush (z := 8) (by decide +kernel) (by decide)) (
  xval (s_iclt (z := 5) (by decide +kernel) (by decide)) (
  xval (s_iconst (z := 0) (by decide +kernel) (by decide)) (
  xval (s_zret (by decide +kernel)) (
  xval (s_lload_n (f := 1) (by decide +kernel) rfl) (
  xval (s_aload_n (f := 0) (by decide +kernel) rfl) (
  xval (s_getf (i := 92) (by decide +kernel) rfl tin_M (by decide) (tc tw_788)) (
  xval (s_callS (i := 66) c_M_charAt (by decide +kernel) rfl (xtt_good tw_852) (tc tw_850) (tc tw_851) (tc tw_6) ⟨by decide, by decide, by decide +kernel⟩ ⟨by decide, by decide, rfl, rfl, by decide, by decide⟩ x0_e) (
  xval (s_istore (by decide +kernel) (by decide)) (
  xval (s_aload_n (f := 0) (by decide +kernel) rfl) (
  xval (s_dup (by decide +kernel)) (
  xval (s_getf (i := 92) (by decide +kernel) rfl tin_M (by decide) (tc tw_788)) (
  xval (s_iconst (z := 1) (by decide +kernel) (by decide)) (
  xval (s_iadd (by decide +kernel)) (
  xval (s_puti (i := 92) (by decide +kernel) rfl tin_M (by decide) (tc tw_788) tM tM_ok nM rfl (by decide +kernel)) (
  xval (s_iload (by decide +kernel)) (
  xval (s_bipush (z := 73) (by decide +kernel) (by decide)) (
  xval (s_iceq (z := 33) (by decide +kernel) (by decide)) (
  xval (s_iload (by decide +kernel)) (
  xval (s_bipush (z := 74) (by decide +kernel) (by decide)) (
  xval (s_iceq (z := 26) (by decide +kernel) (by decide)) (
  xval (s_iload (by decide +kernel)) (
  xval (s_bipush (z := 90) (by decide +kernel) (by decide)) (
  xval (s_iceq (z := 19) (by decide +kernel) (by decide)) (
  xval (s_iload (by decide +kernel)) (
  xval (s_bipush (z := 48) (by decide +kernel) (by decide)) (
  xval (s_iclt (z := 16) (by decide +kernel) (by decide)) (
  xval (s_iload (by decide +kernel)) (
  xval (s_bipush (z := 48) (by decide +kernel) (by decide)) (
  xval (s_iload_n (f := 3) (by decide +kernel) rfl) (
  xval (s_iadd (by decide +kernel)) (
  xval (s_icge (z := 7) (by decide +kernel) (by decide)) (
  xval (s_iconst (z := 1) (by decide +kernel) (by decide)) (
  xval (s_goto (z := 4) (by decide +kernel) (by decide)) (
  xval (s_iconst (z := 0) (by decide +kernel) (by decide)) (
  xval (s_zret (by decide +kernel)) (
  xval_nil)))))))))))))))))))))))))))))))))))))))))))))))))))))))
theorem c_M_type : xMet xCl y_M_type ws_M_type rm_M_type (xRun tb_M_type 5) := xMet.of (by decide) rfl v_M_type
end
section
def tb_M_isDescriptor : xT := [(0, o_lload 1 1), (1, o_call (xRun tb_M_length 3) 1 0 0), (4, o_istore 4 2), (6, o_lload 1 1), (7, o_call (xRun tb_M_isText 5) 1 0 0), (10, o_if (fun a => a = 0) 18), (13, o_iload 4 2), (15, o_ifn (fun a => a = 0) 20), (18, o_i 0 1), (19, o_zret), (20, o_aload 0 1), (21, o_i 0 1), (22, o_puti 5 22), (25, o_lload 1 1), (26, o_i 0 1), (27, o_call (xRun tb_M_charAt 3) 2 0 0), (30, o_i 40 2), (32, o_ic (fun a b => a = b) 59), (35, o_aload 0 1), (36, o_lload 1 1), (37, o_iload 3 1), (38, o_callV (xRun tb_M_type 5) 5 2 0 0), (41, o_if (fun a => a = 0) 57), (44, o_aload 0 1), (45, o_getf 5 22), (48, o_iload 4 2), (50, o_icn (fun a b => a = b) 57), (53, o_i 1 1), (54, o_goto 58), (57, o_i 0 1), (58, o_zret), (59, o_aload 0 1), (60, o_i 1 1), (61, o_puti 5 22), (64, o_aload 0 1), (65, o_getf 5 22), (68, o_iload 4 2), (70, o_ic (fun a b => b ≤ a) 97), (73, o_lload 1 1), (74, o_aload 0 1), (75, o_getf 5 22), (78, o_call (xRun tb_M_charAt 3) 2 0 0), (81, o_i 41 2), (83, o_ic (fun a b => a = b) 97), (86, o_aload 0 1), (87, o_lload 1 1), (88, o_iload 3 1), (89, o_callV (xRun tb_M_type 5) 5 2 0 0), (92, o_ifn (fun a => a = 0) 64), (95, o_i 0 1), (96, o_zret), (97, o_aload 0 1), (98, o_dup), (99, o_getf 5 22), (102, o_i 1 1), (103, o_ii (fun a b => a + b)), (104, o_puti 5 22), (107, o_aload 0 1), (108, o_getf 5 22), (111, o_iload 4 2), (113, o_ic (fun a b => a < b) 118), (116, o_i 0 1), (117, o_zret), (118, o_lload 1 1), (119, o_aload 0 1), (120, o_getf 5 22), (123, o_call (xRun tb_M_charAt 3) 2 0 0), (126, o_i 86 2), (128, o_icn (fun a b => a = b) 148), (131, o_aload 0 1), (132, o_getf 5 22), (135, o_i 1 1), (136, o_ii (fun a b => a + b)), (137, o_iload 4 2), (139, o_icn (fun a b => a = b) 146), (142, o_i 1 1), (143, o_goto 147), (146, o_i 0 1), (147, o_zret), (148, o_aload 0 1), (149, o_lload 1 1), (150, o_iload 3 1), (151, o_callV (xRun tb_M_type 5) 5 2 0 0), (154, o_if (fun a => a = 0) 170), (157, o_aload 0 1), (158, o_getf 5 22), (161, o_iload 4 2), (163, o_icn (fun a b => a = b) 170), (166, o_i 1 1), (167, o_goto 171), (170, o_i 0 1), (171, o_zret)]
abbrev y_M_isDescriptor : MethodName := ⟨"NameMoverModel", "isDescriptor", "(JI)Z"⟩
abbrev rm_M_isDescriptor : Room := { frames := 3, cells := 0, slots := 0, locals := 68 }
abbrev ws_M_isDescriptor : List Cond := Cond.code y_M_isDescriptor prog_11_method_13_code 5 (some .boolean) :: xtt
set_option maxRecDepth 100000 in
theorem v_M_isDescriptor : ∀ q ∈ tb_M_isDescriptor, xSd (0, 0) x0 xCl "NameMoverModel" ws_M_isDescriptor prog_11_method_13_code 5 (some .boolean) rm_M_isDescriptor q :=
  xval (s_lload_n (f := 1) (by decide +kernel) rfl) (
  xval (s_callS (i := 70) c_M_length (by decide +kernel) rfl (xtt_good tw_849) (tc tw_847) (tc tw_848) (tc tw_6) ⟨by decide, by decide, by decide +kernel⟩ ⟨by decide, by decide, rfl, rfl, by decide, by decide⟩ x0_e) (
  xval (s_istore (by decide +kernel) (by decide)) (
  xval (s_lload_n (f := 1) (by decide +kernel) rfl) (
  xval (s_callS (i := 74) c_M_isText (by decide +kernel) rfl (xtt_good tw_856) (tc tw_854) (tc tw_855) (tc tw_6) ⟨by decide, by decide, by decide +kernel⟩ ⟨by decide, by decide, rfl, rfl, by decide, by decide⟩ x0_e) (
  xval (s_ifeq (z := 8) (by decide +kernel) (by decide)) (
  xval (s_iload (by decide +kernel)) (
  xval (s_ifne (z := 5) (by decide +kernel) (by decide)) (
  xval (s_iconst (z := 0) (by decide +kernel) (by decide)) (
  xval (s_zret (by decide +kernel)) (
  xval (s_aload_n (f := 0) (by decide +kernel) rfl) (
  xval (s_iconst (z := 0) (by decide +kernel) (by decide)) (
  xval (s_puti (i := 92) (by decide +kernel) rfl tin_M (by decide) (tc tw_788) tM tM_ok nM rfl (by decide +kernel)) (
  xval (s_lload_n (f := 1) (by decide +kernel) rfl) (
  xval (s_iconst (z := 0) (by decide +kernel) (by decide)) (
  xval (s_callS (i := 66) c_M_charAt (by decide +kernel) rfl (xtt_good tw_852) (tc tw_850) (tc tw_851) (tc tw_6) ⟨by decide, by decide, by decide +kernel⟩ ⟨by decide, by decide, rfl, rfl, by decide, by decide⟩ x0_e) (
  xval (s_bipush (z := 40) (by decide +kernel) (by decide)) (
  xval (s_iceq (z := 27) (by decide +kernel) (by decide)) (
  xval (s_aload_n (f := 0) (by decide +kernel) rfl) (
  xval (s_lload_n (f := 1) (by decide +kernel) rfl) (
  xval (s_iload_n (f := 3) (by decide +kernel) rfl) (
  xval (s_callV (i := 95) c_M_type (by decide +kernel) rfl (xtt_good tw_890) rfl (tc tw_887) (tc tw_889) (tc ts_33) (tc tw_6) ⟨by decide, by decide, by decide +kernel⟩ ⟨by decide, by decide, rfl, rfl, by decide, by decide⟩ x0_e) (
  xval (s_ifeq (z := 16) (by decide +kernel) (by decide)) (
  xval (s_aload_n (f := 0) (by decide +kernel) rfl) (
  xval (s_getf (i := 92) (by decide +kernel) rfl tin_M (by decide) (tc tw_788)) (
  xval (s_iload (by decide +kernel)) (
  xval (s_icne (z := 7) (by decide +kernel) (by decide)) (
  xval (s_iconst (z := 1) (by decide +kernel) (by decide)) (
  xval (s_goto (z := 4) (by decide +kernel) (by decide)) (
  xval (s_iconst (z := 0) (by decide +kernel) (by decide)) (
  xval (s_zret (by decide +kernel)) (
  xval (s_aload_n (f := 0) (by decide +kernel) rfl) (
  xval (s_iconst (z := 1) (by decide +kernel) (by decide)) (
  xval (s_puti (i := 92) (by decide +kernel) rfl tin_M (by decide) (tc tw_788) tM tM_ok nM rfl (by decide +kernel)) (
  xval (s_aload_n (f := 0) (by decide +kernel) rfl) (
  xval (s_getf (i := 92) (by decide +kernel) rfl tin_M (by decide) (tc tw_788)) (
  xval (s_iload (by decide +kernel)) (
  xval (s_icge (z := 27) (by decide +kernel) (by decide)) (
  xval (s_lload_n (f := 1) (by decide +kernel) rfl) (
  xval (s_aload_n (f := 0) (by decide +kernel) rfl) (
  xval (s_getf (i := 92) (by decide +kernel) rfl tin_M (by decide) (tc tw_788)) (
  xval (s_callS (i := 66) c_M_charAt (by decide +kernel) rfl (xtt_good tw_852) (tc tw_850) (tc tw_851) (tc tw_6) ⟨by decide, by decide, by decide +kernel⟩ ⟨by decide, by decide, rfl, rfl, by decide, by decide⟩ x0_e) (
  xval (s_bipush (z := 41) (by decide +kernel) (by decide)) (
  xval (s_iceq (z := 14) (by decide +kernel) (by decide)) (
  xval (s_aload_n (f := 0) (by decide +kernel) rfl) (
  xval (s_lload_n (f := 1) (by decide +kernel) rfl) (
  xval (s_iload_n (f := 3) (by decide +kernel) rfl) (
  xval (s_callV (i := 95) c_M_type (by decide +kernel) rfl (xtt_good tw_890) rfl (tc tw_887) (tc tw_889) (tc ts_33) (tc tw_6) ⟨by decide, by decide, by decide +kernel⟩ ⟨by decide, by decide, rfl, rfl, by decide, by decide⟩ x0_e) (
  xval (s_ifne (z := (-28)) (by decide +kernel) (by decide)) (
  xval (s_iconst (z := 0) (by decide +kernel) (by decide)) (
  xval (s_zret (by decide +kernel)) (
  xval (s_aload_n (f := 0) (by decide +kernel) rfl) (
  xval (s_dup (by decide +kernel)) (
  xval (s_getf (i := 92) (by decide +kernel) rfl tin_M (by decide) (tc tw_788)) (
  xval (s_iconst (z := 1) (by decide +kernel) (by decide)) (
  xval (s_iadd (by decide +kernel)) (
  xval (s_puti (i := 92) (by decide +kernel) rfl tin_M (by decide) (tc tw_788) tM tM_ok nM rfl (by decide +kernel)) (
  xval (s_aload_n (f := 0) (by decide +kernel) rfl) (
  xval (s_getf (i := 92) (by decide +kernel) rfl tin_M (by decide) (tc tw_788)) (
  xval (s_iload (by decide +kernel)) (
  xval (s_iclt (z := 5) (by decide +kernel) (by decide)) (
  xval (s_iconst (z := 0) (by decide +kernel) (by decide)) (
  xval (s_zret (by decide +kernel)) (
  xval (s_lload_n (f := 1) (by decide +kernel) rfl) (
  xval (s_aload_n (f := 0) (by decide +kernel) rfl) (
  xval (s_getf (i := 92) (by decide +kernel) rfl tin_M (by decide) (tc tw_788)) (
  xval (s_callS (i := 66) c_M_charAt (by decide +kernel) rfl (xtt_good tw_852) (tc tw_850) (tc tw_851) (tc tw_6) ⟨by decide, by decide, by decide +kernel⟩ ⟨by decide, by decide, rfl, rfl, by decide, by decide⟩ x0_e) (
  xval (s_bipush (z := 86) (by decide +kernel) (by decide)) (
  xval (s_icne (z := 20) (by decide +kernel) (by decide)) (
  xval (s_aload_n (f := 0) (by decide +kernel) rfl) (
  xval (s_getf (i := 92) (by decide +kernel) rfl tin_M (by decide) (tc tw_788)) (
  xval (s_iconst (z := 1) (by decide +kernel) (by decide)) (
  xval (s_iadd (by decide +kernel)) (
  xval (s_iload (by decide +kernel)) (
  xval (s_icne (z := 7) (by decide +kernel) (by decide)) (
  xval (s_iconst (z := 1) (by decide +kernel) (by decide)) (
  xval (s_goto (z := 4) (by decide +kernel) (by decide)) (
  xval (s_iconst (z := 0) (by decide +kernel) (by decide)) (
  xval (s_zret (by decide +kernel)) (
  xval (s_aload_n (f := 0) (by decide +kernel) rfl) (
  xval (s_lload_n (f := 1) (by decide +kernel) rfl) (
  xval (s_iload_n (f := 3) (by decide +kernel) rfl) (
  xval (s_callV (i := 95) c_M_type (by decide +kernel) rfl (xtt_good tw_890) rfl (tc tw_887) (tc tw_889) (tc ts_33) (tc tw_6) ⟨by decide, by decide, by decide +kernel⟩ ⟨by decide, by decide, rfl, rfl, by decide, by decide⟩ x0_e) (
  xval (s_ifeq (z := 16) (by decide +kernel) (by decide)) (
  xval (s_aload_n (f := 0) (by decide +kernel) rfl) (
  xval (s_getf (i := 92) (by decide +kernel) rfl tin_M (by decide) (tc tw_788)) (
  xval (s_iload (by decide +kernel)) (
  xval (s_icne (z := 7) (by decide +kernel) (by decide)) (
  xval (s_iconst (z := 1) (by decide +kernel) (by decide)) (
  xval (s_goto (z := 4) (by decide +kernel) (by decide)) (
  xval (s_iconst (z := 0) (by decide +kernel) (by decide)) (
  xval (s_zret (by decide +kernel)) (
  xval_nil))))))))))))))))))))))))))))))))))))))))))))))))))))))))))))))))))))))))))))))))))))))))))))
theorem c_M_isDescriptor : xMet xCl y_M_isDescriptor ws_M_isDescriptor rm_M_isDescriptor (xRun tb_M_isDescriptor 5) := xMet.of (by decide) rfl v_M_isDescriptor
def tb_M_isMethod : xT := [(0, o_aload 0 1), (1, o_getf 5 9), (4, o_iload 1 1), (5, o_laload), (6, o_i 0 1), (7, o_call (xRun tb_M_charAt 3) 2 0 0), (10, o_i 40 2), (12, o_icn (fun a b => a = b) 19), (15, o_i 1 1), (16, o_goto 20), (19, o_i 0 1), (20, o_zret)]
abbrev y_M_isMethod : MethodName := ⟨"NameMoverModel", "isMethod", "(I)Z"⟩
abbrev rm_M_isMethod : Room := { frames := 1, cells := 0, slots := 0, locals := 22 }
abbrev ws_M_isMethod : List Cond := Cond.code y_M_isMethod prog_11_method_14_code 2 (some .boolean) :: xtt
set_option maxRecDepth 100000 in
theorem v_M_isMethod : ∀ q ∈ tb_M_isMethod, xSd (0, 0) x0 xCl "NameMoverModel" ws_M_isMethod prog_11_method_14_code 2 (some .boolean) rm_M_isMethod q :=
  xval (s_aload_n (f := 0) (by decide +kernel) rfl) (
  xval (s_getf (i := 33) (by decide +kernel) rfl tin_M (by decide) (tc tw_775)) (
  xval (s_iload_n (f := 1) (by decide +kernel) rfl) (
  xval (s_laload (by decide +kernel)) (
  xval (s_iconst (z := 0) (by decide +kernel) (by decide)) (
  xval (s_callS (i := 66) c_M_charAt (by decide +kernel) rfl (xtt_good tw_852) (tc tw_850) (tc tw_851) (tc tw_6) ⟨by decide, by decide, by decide +kernel⟩ ⟨by decide, by decide, rfl, rfl, by decide, by decide⟩ x0_e) (
  xval (s_bipush (z := 40) (by decide +kernel) (by decide)) (
  xval (s_icne (z := 7) (by decide +kernel) (by decide)) (
  xval (s_iconst (z := 1) (by decide +kernel) (by decide)) (
  xval (s_goto (z := 4) (by decide +kernel) (by decide)) (
  xval (s_iconst (z := 0) (by decide +kernel) (by decide)) (
  xval (s_zret (by decide +kernel)) (
  xval_nil))))))))))))
theorem c_M_isMethod : xMet xCl y_M_isMethod ws_M_isMethod rm_M_isMethod (xRun tb_M_isMethod 2) := xMet.of (by decide) rfl v_M_isMethod
def tb_M_isClass : xT := [(0, o_iload 1 1), (1, o_if (fun a => a < 0) 16), (4, o_iload 1 1), (5, o_aload 0 1), (6, o_getf 5 1), (9, o_ic (fun a b => b ≤ a) 16), (12, o_i 1 1), (13, o_goto 17), (16, o_i 0 1), (17, o_zret)]
abbrev y_M_isClass : MethodName := ⟨"NameMoverModel", "isClass", "(I)Z"⟩
abbrev rm_M_isClass : Room := { frames := 0, cells := 0, slots := 0, locals := 0 }
abbrev ws_M_isClass : List Cond := Cond.code y_M_isClass prog_11_method_15_code 2 (some .boolean) :: xtt
set_option maxRecDepth 100000 in
theorem v_M_isClass : ∀ q ∈ tb_M_isClass, xSd (0, 0) x0 xCl "NameMoverModel" ws_M_isClass prog_11_method_15_code 2 (some .boolean) rm_M_isClass q :=
  xval (s_iload_n (f := 1) (by decide +kernel) rfl) (
  xval (s_iflt (z := 15) (by decide +kernel) (by decide)) (
  xval (s_iload_n (f := 1) (by decide +kernel) rfl) (
  xval (s_aload_n (f := 0) (by decide +kernel) rfl) (
  xval (s_getf (i := 99) (by decide +kernel) rfl tin_M (by decide) (tc tw_767)) (
  xval (s_icge (z := 7) (by decide +kernel) (by decide)) (
  xval (s_iconst (z := 1) (by decide +kernel) (by decide)) (
  xval (s_goto (z := 4) (by decide +kernel) (by decide)) (
  xval (s_iconst (z := 0) (by decide +kernel) (by decide)) (
  xval (s_zret (by decide +kernel)) (
  xval_nil))))))))))
theorem c_M_isClass : xMet xCl y_M_isClass ws_M_isClass rm_M_isClass (xRun tb_M_isClass 2) := xMet.of (by decide) rfl v_M_isClass
def tb_M_isMember : xT := [(0, o_aload 0 1), (1, o_iload 1 1), (2, o_callV (xRun tb_M_isClass 2) 5 1 0 0), (5, o_if (fun a => a = 0) 26), (8, o_iload 2 1), (9, o_if (fun a => a < 0) 26), (12, o_iload 2 1), (13, o_aload 0 1), (14, o_getf 5 6), (17, o_iload 1 1), (18, o_iaload), (19, o_ic (fun a b => b ≤ a) 26), (22, o_i 1 1), (23, o_goto 27), (26, o_i 0 1), (27, o_zret)]
abbrev y_M_isMember : MethodName := ⟨"NameMoverModel", "isMember", "(II)Z"⟩
abbrev rm_M_isMember : Room := { frames := 1, cells := 0, slots := 0, locals := 21 }
abbrev ws_M_isMember : List Cond := Cond.code y_M_isMember prog_11_method_16_code 3 (some .boolean) :: xtt
set_option maxRecDepth 100000 in
theorem v_M_isMember : ∀ q ∈ tb_M_isMember, xSd (0, 0) x0 xCl "NameMoverModel" ws_M_isMember prog_11_method_16_code 3 (some .boolean) rm_M_isMember q :=
  xval (s_aload_n (f := 0) (by decide +kernel) rfl) (
  xval (s_iload_n (f := 1) (by decide +kernel) rfl) (
  xval (s_callV (i := 102) c_M_isClass (by decide +kernel) rfl (xtt_good tw_866) rfl (tc tw_863) (tc tw_865) (tc ts_28) (tc tw_6) ⟨by decide, by decide, by decide +kernel⟩ ⟨by decide, by decide, rfl, rfl, by decide, by decide⟩ x0_e) (
  xval (s_ifeq (z := 21) (by decide +kernel) (by decide)) (
  xval (s_iload_n (f := 2) (by decide +kernel) rfl) (
  xval (s_iflt (z := 17) (by decide +kernel) (by decide)) (
  xval (s_iload_n (f := 2) (by decide +kernel) rfl) (
  xval (s_aload_n (f := 0) (by decide +kernel) rfl) (
  xval (s_getf (i := 24) (by decide +kernel) rfl tin_M (by decide) (tc tw_772)) (
  xval (s_iload_n (f := 1) (by decide +kernel) rfl) (
  xval (s_iaload (by decide +kernel)) (
  xval (s_icge (z := 7) (by decide +kernel) (by decide)) (
  xval (s_iconst (z := 1) (by decide +kernel) (by decide)) (
  xval (s_goto (z := 4) (by decide +kernel) (by decide)) (
  xval (s_iconst (z := 0) (by decide +kernel) (by decide)) (
  xval (s_zret (by decide +kernel)) (
  xval_nil))))))))))))))))
theorem c_M_isMember : xMet xCl y_M_isMember ws_M_isMember rm_M_isMember (xRun tb_M_isMember 3) := xMet.of (by decide) rfl v_M_isMember
def tb_M_named : xT := [(0, o_i (-1) 1), (1, o_istore 3 1), (2, o_i 0 1), (3, o_istore 4 2), (5, o_iload 4 2), (7, o_aload 0 1), (8, o_getf 5 1), (11, o_ic (fun a b => b ≤ a) 39), (14, o_aload 0 1), (15, o_getf 5 2), (18, o_iload 4 2), (20, o_laload), (21, o_lload 1 1), (22, o_lcmp), (23, o_ifn (fun a => a = 0) 31), (26, o_iload 4 2), (28, o_goto 32), (31, o_iload 3 1), (32, o_istore 3 1), (33, o_iinc 4 1), (36, o_goto 5), (39, o_iload 3 1), (40, o_iret)]
abbrev y_M_named : MethodName := ⟨"NameMoverModel", "named", "(J)I"⟩
abbrev rm_M_named : Room := { frames := 0, cells := 0, slots := 0, locals := 0 }
abbrev ws_M_named : List Cond := Cond.code y_M_named prog_11_method_17_code 5 (some .int) :: xtt
set_option maxRecDepth 100000 in
theorem v_M_named : ∀ q ∈ tb_M_named, xSd (0, 0) x0 xCl "NameMoverModel" ws_M_named prog_11_method_17_code 5 (some .int) rm_M_named q :=
  xval (s_iconst (z := (-1)) (by decide +kernel) (by decide)) (
  xval (s_istore_n (f := 3) (by decide +kernel) rfl (by decide)) (
  xval (s_iconst (z := 0) (by decide +kernel) (by decide)) (
  xval (s_istore (by decide +kernel) (by decide)) (
  xval (s_iload (by decide +kernel)) (
  xval (s_aload_n (f := 0) (by decide +kernel) rfl) (
  xval (s_getf (i := 99) (by decide +kernel) rfl tin_M (by decide) (tc tw_767)) (
  xval (s_icge (z := 28) (by decide +kernel) (by decide)) (
  xval (s_aload_n (f := 0) (by decide +kernel) rfl) (
  xval (s_getf (i := 7) (by decide +kernel) rfl tin_M (by decide) (tc tw_768)) (
  xval (s_iload (by decide +kernel)) (
  xval (s_laload (by decide +kernel)) (
  xval (s_lload_n (f := 1) (by decide +kernel) rfl) (
  xval (s_lcmp (by decide +kernel)) (
  xval (s_ifne (z := 8) (by decide +kernel) (by decide)) (
  xval (s_iload (by decide +kernel)) (
  xval (s_goto (z := 4) (by decide +kernel) (by decide)) (
  xval (s_iload_n (f := 3) (by decide +kernel) rfl) (
  xval (s_istore_n (f := 3) (by decide +kernel) rfl (by decide)) (
  xval (s_iinc (z := 1) (by decide +kernel) (by decide) (by decide)) (
  xval (s_goto (z := (-31)) (by decide +kernel) (by decide)) (
  xval (s_iload_n (f := 3) (by decide +kernel) rfl) (
  xval (s_iret (by decide +kernel)) (
  xval_nil)))))))))))))))))))))))
theorem c_M_named : xMet xCl y_M_named ws_M_named rm_M_named (xRun tb_M_named 5) := xMet.of (by decide) rfl v_M_named
def tb_M_isAbove : xT := [(0, o_iload 2 1), (1, o_istore 3 1), (2, o_iload 3 1), (3, o_if (fun a => a < 0) 21), (6, o_iload 3 1), (7, o_iload 1 1), (8, o_ic (fun a b => a = b) 21), (11, o_aload 0 1), (12, o_getf 5 4), (15, o_iload 3 1), (16, o_iaload), (17, o_istore 3 1), (18, o_goto 2), (21, o_iload 3 1), (22, o_iload 1 1), (23, o_icn (fun a b => a = b) 30), (26, o_i 1 1), (27, o_goto 31), (30, o_i 0 1), (31, o_zret)]
abbrev y_M_isAbove : MethodName := ⟨"NameMoverModel", "isAbove", "(II)Z"⟩
abbrev rm_M_isAbove : Room := { frames := 0, cells := 0, slots := 0, locals := 0 }
abbrev ws_M_isAbove : List Cond := Cond.code y_M_isAbove prog_11_method_18_code 4 (some .boolean) :: xtt
set_option maxRecDepth 100000 in
theorem v_M_isAbove : ∀ q ∈ tb_M_isAbove, xSd (0, 0) x0 xCl "NameMoverModel" ws_M_isAbove prog_11_method_18_code 4 (some .boolean) rm_M_isAbove q :=
  xval (s_iload_n (f := 2) (by decide +kernel) rfl) (
  xval (s_istore_n (f := 3) (by decide +kernel) rfl (by decide)) (
  xval (s_iload_n (f := 3) (by decide +kernel) rfl) (
  xval (s_iflt (z := 18) (by decide +kernel) (by decide)) (
  xval (s_iload_n (f := 3) (by decide +kernel) rfl) (
  xval (s_iload_n (f := 1) (by decide +kernel) rfl) (
  xval (s_iceq (z := 13) (by decide +kernel) (by decide)) (
  xval (s_aload_n (f := 0) (by decide +kernel) rfl) (
  xval (s_getf (i := 16) (by decide +kernel) rfl tin_M (by decide) (tc tw_770)) (
  xval (s_iload_n (f := 3) (by decide +kernel) rfl) (
  xval (s_iaload (by decide +kernel)) (
  xval (s_istore_n (f := 3) (by decide +kernel) rfl (by decide)) (
  xval (s_goto (z := (-16)) (by decide +kernel) (by decide)) (
  xval (s_iload_n (f := 3) (by decide +kernel) rfl) (
  xval (s_iload_n (f := 1) (by decide +kernel) rfl) (
  xval (s_icne (z := 7) (by decide +kernel) (by decide)) (
  xval (s_iconst (z := 1) (by decide +kernel) (by decide)) (
  xval (s_goto (z := 4) (by decide +kernel) (by decide)) (
  xval (s_iconst (z := 0) (by decide +kernel) (by decide)) (
  xval (s_zret (by decide +kernel)) (
  xval_nil))))))))))))))))))))
theorem c_M_isAbove : xMet xCl y_M_isAbove ws_M_isAbove rm_M_isAbove (xRun tb_M_isAbove 4) := xMet.of (by decide) rfl v_M_isAbove
def tb_M_areRelated : xT := [(0, o_aload 0 1), (1, o_iload 1 1), (2, o_iload 2 1), (3, o_callV (xRun tb_M_isAbove 4) 5 2 0 0), (6, o_ifn (fun a => a = 0) 18), (9, o_aload 0 1), (10, o_iload 2 1), (11, o_iload 1 1), (12, o_callV (xRun tb_M_isAbove 4) 5 2 0 0), (15, o_if (fun a => a = 0) 22), (18, o_i 1 1), (19, o_goto 23), (22, o_i 0 1), (23, o_zret)]
abbrev y_M_areRelated : MethodName := ⟨"NameMoverModel", "areRelated", "(II)Z"⟩
abbrev rm_M_areRelated : Room := { frames := 1, cells := 0, slots := 0, locals := 23 }
abbrev ws_M_areRelated : List Cond := Cond.code y_M_areRelated prog_11_method_19_code 3 (some .boolean) :: xtt
set_option maxRecDepth 100000 in
theorem v_M_areRelated : ∀ q ∈ tb_M_areRelated, xSd (0, 0) x0 xCl "NameMoverModel" ws_M_areRelated prog_11_method_19_code 3 (some .boolean) rm_M_areRelated q :=
  xval (s_aload_n (f := 0) (by decide +kernel) rfl) (
  xval (s_iload_n (f := 1) (by decide +kernel) rfl) (
  xval (s_iload_n (f := 2) (by decide +kernel) rfl) (
  xval (s_callV (i := 105) c_M_isAbove (by decide +kernel) rfl (xtt_good tw_947) rfl (tc tw_944) (tc tw_946) (tc ts_41) (tc tw_6) ⟨by decide, by decide, by decide +kernel⟩ ⟨by decide, by decide, rfl, rfl, by decide, by decide⟩ x0_e) (
  xval (s_ifne (z := 12) (by decide +kernel) (by decide)) (
  xval (s_aload_n (f := 0) (by decide +kernel) rfl) (
  xval (s_iload_n (f := 2) (by decide +kernel) rfl) (
  xval (s_iload_n (f := 1) (by decide +kernel) rfl) (
  xval (s_callV (i := 105) c_M_isAbove (by decide +kernel) rfl (xtt_good tw_947) rfl (tc tw_944) (tc tw_946) (tc ts_41) (tc tw_6) ⟨by decide, by decide, by decide +kernel⟩ ⟨by decide, by decide, rfl, rfl, by decide, by decide⟩ x0_e) (
  xval (s_ifeq (z := 7) (by decide +kernel) (by decide)) (
  xval (s_iconst (z := 1) (by decide +kernel) (by decide)) (
  xval (s_goto (z := 4) (by decide +kernel) (by decide)) (
  xval (s_iconst (z := 0) (by decide +kernel) (by decide)) (
  xval (s_zret (by decide +kernel)) (
  xval_nil))))))))))))))
theorem c_M_areRelated : xMet xCl y_M_areRelated ws_M_areRelated rm_M_areRelated (xRun tb_M_areRelated 3) := xMet.of (by decide) rfl v_M_areRelated
def tb_M_moves : xT := [(0, o_i 0 1), (1, o_istore 1 1), (2, o_i 0 1), (3, o_istore 2 1), (4, o_iload 2 1), (5, o_aload 0 1), (6, o_getf 5 1), (9, o_ic (fun a b => b ≤ a) 92), (12, o_iload 1 1), (13, o_aload 0 1), (14, o_getf 5 2), (17, o_iload 2 1), (18, o_laload), (19, o_aload 0 1), (20, o_getf 5 3), (23, o_iload 2 1), (24, o_laload), (25, o_lcmp), (26, o_if (fun a => a = 0) 33), (29, o_i 1 1), (30, o_goto 34), (33, o_i 0 1), (34, o_ii (fun a b => a + b)), (35, o_istore 1 1), (36, o_i 8 2), (38, o_iload 2 1), (39, o_ii (fun a b => a * b)), (40, o_istore 3 1), (41, o_iload 3 1), (42, o_i 8 2), (44, o_iload 2 1), (45, o_ii (fun a b => a * b)), (46, o_aload 0 1), (47, o_getf 5 6), (50, o_iload 2 1), (51, o_iaload), (52, o_ii (fun a b => a + b)), (53, o_ic (fun a b => b ≤ a) 86), (56, o_iload 1 1), (57, o_aload 0 1), (58, o_getf 5 7), (61, o_iload 3 1), (62, o_laload), (63, o_aload 0 1), (64, o_getf 5 8), (67, o_iload 3 1), (68, o_laload), (69, o_lcmp), (70, o_if (fun a => a = 0) 77), (73, o_i 1 1), (74, o_goto 78), (77, o_i 0 1), (78, o_ii (fun a b => a + b)), (79, o_istore 1 1), (80, o_iinc 3 1), (83, o_goto 41), (86, o_iinc 2 1), (89, o_goto 4), (92, o_iload 1 1), (93, o_iret)]
abbrev y_M_moves : MethodName := ⟨"NameMoverModel", "moves", "()I"⟩
abbrev rm_M_moves : Room := { frames := 0, cells := 0, slots := 0, locals := 0 }
abbrev ws_M_moves : List Cond := Cond.code y_M_moves prog_11_method_20_code 4 (some .int) :: xtt
set_option maxRecDepth 100000 in
theorem v_M_moves : ∀ q ∈ tb_M_moves, xSd (0, 0) x0 xCl "NameMoverModel" ws_M_moves prog_11_method_20_code 4 (some .int) rm_M_moves q :=
  xval (s_iconst (z := 0) (by decide +kernel) (by decide)) (
  xval (s_istore_n (f := 1) (by decide +kernel) rfl (by decide)) (
  xval (s_iconst (z := 0) (by decide +kernel) (by decide)) (
  xval (s_istore_n (f := 2) (by decide +kernel) rfl (by decide)) (
  xval (s_iload_n (f := 2) (by decide +kernel) rfl) (
  xval (s_aload_n (f := 0) (by decide +kernel) rfl) (
  xval (s_getf (i := 99) (by decide +kernel) rfl tin_M (by decide) (tc tw_767)) (
  xval (s_icge (z := 83) (by decide +kernel) (by decide)) (
  xval (s_iload_n (f := 1) (by decide +kernel) rfl) (
  xval (s_aload_n (f := 0) (by decide +kernel) rfl) (
  xval (s_getf (i := 7) (by decide +kernel) rfl tin_M (by decide) (tc tw_768)) (
  xval (s_iload_n (f := 2) (by decide +kernel) rfl) (
  xval (s_laload (by decide +kernel)) (
  xval (s_aload_n (f := 0) (by decide +kernel) rfl) (
  xval (s_getf (i := 13) (by decide +kernel) rfl tin_M (by decide) (tc tw_769)) (
  xval (s_iload_n (f := 2) (by decide +kernel) rfl) (
  xval (s_laload (by decide +kernel)) (
  xval (s_lcmp (by decide +kernel)) (
  xval (s_ifeq (z := 7) (by decide +kernel) (by decide)) (
  xval (s_iconst (z := 1) (by decide +kernel) (by decide)) (
  xval (s_goto (z := 4) (by decide +kernel) (by decide)) (
  xval (s_iconst (z := 0) (by decide +kernel) (by decide)) (
  xval (s_iadd (by decide +kernel)) (
  xval (s_istore_n (f := 1) (by decide +kernel) rfl (by decide)) (
  xval (s_bipush (z := 8) (by decide +kernel) (by decide)) (
  xval (s_iload_n (f := 2) (by decide +kernel) rfl) (
  xval (s_imul (by decide +kernel)) (
  xval (s_istore_n (f := 3) (by decide +kernel) rfl (by decide)) (
  xval (s_iload_n (f := 3) (by decide +kernel) rfl) (
  xval (s_bipush (z := 8) (by decide +kernel) (by decide)) (
  xval (s_iload_n (f := 2) (by decide +kernel) rfl) (
  xval (s_imul (by decide +kernel)) (
  xval (s_aload_n (f := 0) (by decide +kernel) rfl) (
  xval (s_getf (i := 24) (by decide +kernel) rfl tin_M (by decide) (tc tw_772)) (
  xval (s_iload_n (f := 2) (by decide +kernel) rfl) (
  xval (s_iaload (by decide +kernel)) (
  xval (s_iadd (by decide +kernel)) (
  xval (s_icge (z := 33) (by decide +kernel) (by decide)) (
  xval (s_iload_n (f := 1) (by decide +kernel) rfl) (
  xval (s_aload_n (f := 0) (by decide +kernel) rfl) (
  xval (s_getf (i := 27) (by decide +kernel) rfl tin_M (by decide) (tc tw_773)) (
  xval (s_iload_n (f := 3) (by decide +kernel) rfl) (
  xval (s_laload (by decide +kernel)) (
  xval (s_aload_n (f := 0) (by decide +kernel) rfl) (
  xval (s_getf (i := 30) (by decide +kernel) rfl tin_M (by decide) (tc tw_774)) (
  xval (s_iload_n (f := 3) (by decide +kernel) rfl) (
  xval (s_laload (by decide +kernel)) (
  xval (s_lcmp (by decide +kernel)) (
  xval (s_ifeq (z := 7) (by decide +kernel) (by decide)) (
  xval (s_iconst (z := 1) (by decide +kernel) (by decide)) (
  xval (s_goto (z := 4) (by decide +kernel) (by decide)) (
  xval (s_iconst (z := 0) (by decide +kernel) (by decide)) (
  xval (s_iadd (by decide +kernel)) (
  xval (s_istore_n (f := 1) (by decide +kernel) rfl (by decide)) (
  xval (s_iinc (z := 1) (by decide +kernel) (by decide) (by decide)) (
  xval (s_goto (z := (-42)) (by decide +kernel) (by decide)) (
  xval (s_iinc (z := 1) (by decide +kernel) (by decide) (by decide)) (
  xval (s_goto (z := (-85)) (by decide +kernel) (by decide)) (
  xval (s_iload_n (f := 1) (by decide +kernel) rfl) (
  xval (s_iret (by decide +kernel)) (
  xval_nil))))))))))))))))))))))))))))))))))))))))))))))))))))))))))))
theorem c_M_moves : xMet xCl y_M_moves ws_M_moves rm_M_moves (xRun tb_M_moves 4) := xMet.of (by decide) rfl v_M_moves
def tb_M_put : xT := [(0, o_aload 0 1), (1, o_getf 5 2), (4, o_aload 0 1), (5, o_getf 5 1), (8, o_lload 1 1), (9, o_lastore), (10, o_aload 0 1), (11, o_getf 5 3), (14, o_aload 0 1), (15, o_getf 5 1), (18, o_lload 1 1), (19, o_lastore), (20, o_aload 0 1), (21, o_getf 5 4), (24, o_aload 0 1), (25, o_getf 5 1), (28, o_iload 3 1), (29, o_iastore), (30, o_aload 0 1), (31, o_getf 5 5), (34, o_aload 0 1), (35, o_getf 5 1), (38, o_iload 4 2), (40, o_bastore), (41, o_aload 0 1), (42, o_getf 5 6), (45, o_aload 0 1), (46, o_getf 5 1), (49, o_i 0 1), (50, o_iastore), (51, o_vret)]
abbrev y_M_put : MethodName := ⟨"NameMoverModel", "put", "(JIZ)V"⟩
abbrev rm_M_put : Room := { frames := 0, cells := 0, slots := 0, locals := 0 }
abbrev ws_M_put : List Cond := Cond.code y_M_put prog_11_method_22_code 5 (none) :: xtt
set_option maxRecDepth 100000 in
theorem v_M_put : ∀ q ∈ tb_M_put, xSd (0, 0) x0 xCl "NameMoverModel" ws_M_put prog_11_method_22_code 5 (none) rm_M_put q :=
  xval (s_aload_n (f := 0) (by decide +kernel) rfl) (
  xval (s_getf (i := 7) (by decide +kernel) rfl tin_M (by decide) (tc tw_768)) (
  xval (s_aload_n (f := 0) (by decide +kernel) rfl) (
  xval (s_getf (i := 99) (by decide +kernel) rfl tin_M (by decide) (tc tw_767)) (
  xval (s_lload_n (f := 1) (by decide +kernel) rfl) (
  xval (s_lastore (by decide +kernel)) (
  xval (s_aload_n (f := 0) (by decide +kernel) rfl) (
  xval (s_getf (i := 13) (by decide +kernel) rfl tin_M (by decide) (tc tw_769)) (
  xval (s_aload_n (f := 0) (by decide +kernel) rfl) (
  xval (s_getf (i := 99) (by decide +kernel) rfl tin_M (by decide) (tc tw_767)) (
  xval (s_lload_n (f := 1) (by decide +kernel) rfl) (
  xval (s_lastore (by decide +kernel)) (
  xval (s_aload_n (f := 0) (by decide +kernel) rfl) (
  xval (s_getf (i := 16) (by decide +kernel) rfl tin_M (by decide) (tc tw_770)) (
  xval (s_aload_n (f := 0) (by decide +kernel) rfl) (
  xval (s_getf (i := 99) (by decide +kernel) rfl tin_M (by decide) (tc tw_767)) (
  xval (s_iload_n (f := 3) (by decide +kernel) rfl) (
  xval (s_iastore (by decide +kernel)) (
  xval (s_aload_n (f := 0) (by decide +kernel) rfl) (
  xval (s_getf (i := 20) (by decide +kernel) rfl tin_M (by decide) (tc tw_771)) (
  xval (s_aload_n (f := 0) (by decide +kernel) rfl) (
  xval (s_getf (i := 99) (by decide +kernel) rfl tin_M (by decide) (tc tw_767)) (
  xval (s_iload (by decide +kernel)) (
  xval (s_bastore (by decide +kernel)) (
  xval (s_aload_n (f := 0) (by decide +kernel) rfl) (
  xval (s_getf (i := 24) (by decide +kernel) rfl tin_M (by decide) (tc tw_772)) (
  xval (s_aload_n (f := 0) (by decide +kernel) rfl) (
  xval (s_getf (i := 99) (by decide +kernel) rfl tin_M (by decide) (tc tw_767)) (
  xval (s_iconst (z := 0) (by decide +kernel) (by decide)) (
  xval (s_iastore (by decide +kernel)) (
  xval (s_vret (by decide +kernel)) (
  xval_nil)))))))))))))))))))))))))))))))
theorem c_M_put : xMet xCl y_M_put ws_M_put rm_M_put (xRun tb_M_put 5) := xMet.of (by decide) rfl v_M_put
def tb_M_declare : xT := [(0, o_aload 0 1), (1, o_lload 1 1), (2, o_i 0 1), (3, o_call (xRun tb_M_isName 8) 2 0 0), (6, o_ifn (fun a => a = 0) 13), (9, o_i 1 1), (10, o_goto 59), (13, o_iload 3 1), (14, o_i (-1) 1), (15, o_ic (fun a b => a = b) 30), (18, o_aload 0 1), (19, o_iload 3 1), (20, o_callV (xRun tb_M_isClass 2) 5 1 0 0), (23, o_ifn (fun a => a = 0) 30), (26, o_i 2 1), (27, o_goto 59), (30, o_aload 0 1), (31, o_callV (xRun tb_M_moves 4) 5 0 0 0), (34, o_if (fun a => 0 < a) 54), (37, o_aload 0 1), (38, o_getf 5 1), (41, o_i 8 2), (43, o_ic (fun a b => a = b) 54), (46, o_aload 0 1), (47, o_lload 1 1), (48, o_callV (xRun tb_M_named 5) 5 1 0 0), (51, o_if (fun a => a < 0) 58), (54, o_i 3 1), (55, o_goto 59), (58, o_i 0 1), (59, o_puti 5 0), (62, o_aload 0 1), (63, o_getf 5 0), (66, o_if (fun a => a ≤ 0) 71), (69, o_i 0 1), (70, o_iret), (71, o_aload 0 1), (72, o_lload 1 1), (73, o_iload 3 1), (74, o_iload 4 2), (76, o_callV (xRun tb_M_put 5) 5 3 0 0), (79, o_aload 0 1), (80, o_dup), (81, o_getf 5 1), (84, o_i 1 1), (85, o_ii (fun a b => a + b)), (86, o_puti 5 1), (89, o_aload 0 1), (90, o_getf 5 1), (93, o_i 1 1), (94, o_ii (fun a b => a - b)), (95, o_iret)]
abbrev y_M_declare : MethodName := ⟨"NameMoverModel", "declare", "(JIZ)I"⟩
abbrev rm_M_declare : Room := { frames := 4, cells := 0, slots := 0, locals := 95 }
abbrev ws_M_declare : List Cond := Cond.code y_M_declare prog_11_method_21_code 5 (some .int) :: xtt
set_option maxRecDepth 100000 in
theorem v_M_declare : ∀ q ∈ tb_M_declare, xSd (0, 0) x0 xCl "NameMoverModel" ws_M_declare prog_11_method_21_code 5 (some .int) rm_M_declare q :=
  xval (s_aload_n (f := 0) (by decide +kernel) rfl) (
  xval (s_lload_n (f := 1) (by decide +kernel) rfl) (
  xval (s_iconst (z := 0) (by decide +kernel) (by decide)) (
  xval (s_callS (i := 109) c_M_isName (by decide +kernel) rfl (xtt_good tw_846) (tc tw_844) (tc tw_845) (tc tw_6) ⟨by decide, by decide, by decide +kernel⟩ ⟨by decide, by decide, rfl, rfl, by decide, by decide⟩ x0_e) (
  xval (s_ifne (z := 7) (by decide +kernel) (by decide)) (
  xval (s_iconst (z := 1) (by decide +kernel) (by decide)) (
  xval (s_goto (z := 49) (by decide +kernel) (by decide)) (
  xval (s_iload_n (f := 3) (by decide +kernel) rfl) (
  xval (s_iconst (z := (-1)) (by decide +kernel) (by decide)) (
  xval (s_iceq (z := 15) (by decide +kernel) (by decide)) (
  xval (s_aload_n (f := 0) (by decide +kernel) rfl) (
  xval (s_iload_n (f := 3) (by decide +kernel) rfl) (
  xval (s_callV (i := 102) c_M_isClass (by decide +kernel) rfl (xtt_good tw_866) rfl (tc tw_863) (tc tw_865) (tc ts_28) (tc tw_6) ⟨by decide, by decide, by decide +kernel⟩ ⟨by decide, by decide, rfl, rfl, by decide, by decide⟩ x0_e) (
  xval (s_ifne (z := 7) (by decide +kernel) (by decide)) (
  xval (s_iconst (z := 2) (by decide +kernel) (by decide)) (
  xval (s_goto (z := 32) (by decide +kernel) (by decide)) (
  xval (s_aload_n (f := 0) (by decide +kernel) rfl) (
  xval (s_callV (i := 113) c_M_moves (by decide +kernel) rfl (xtt_good tw_870) rfl (tc tw_867) (tc tw_869) (tc ts_29) (tc tw_6) ⟨by decide, by decide, by decide +kernel⟩ ⟨by decide, by decide, rfl, rfl, by decide, by decide⟩ x0_e) (
  xval (s_ifgt (z := 20) (by decide +kernel) (by decide)) (
  xval (s_aload_n (f := 0) (by decide +kernel) rfl) (
  xval (s_getf (i := 99) (by decide +kernel) rfl tin_M (by decide) (tc tw_767)) (
  xval (s_bipush (z := 8) (by decide +kernel) (by decide)) (
  xval (s_iceq (z := 11) (by decide +kernel) (by decide)) (
  xval (s_aload_n (f := 0) (by decide +kernel) rfl) (
  xval (s_lload_n (f := 1) (by decide +kernel) rfl) (
  xval (s_callV (i := 117) c_M_named (by decide +kernel) rfl (xtt_good tw_874) rfl (tc tw_871) (tc tw_873) (tc ts_30) (tc tw_6) ⟨by decide, by decide, by decide +kernel⟩ ⟨by decide, by decide, rfl, rfl, by decide, by decide⟩ x0_e) (
  xval (s_iflt (z := 7) (by decide +kernel) (by decide)) (
  xval (s_iconst (z := 3) (by decide +kernel) (by decide)) (
  xval (s_goto (z := 4) (by decide +kernel) (by decide)) (
  xval (s_iconst (z := 0) (by decide +kernel) (by decide)) (
  xval (s_puti (i := 60) (by decide +kernel) rfl tin_M (by decide) (tc tw_766) tM tM_ok nM rfl (by decide +kernel)) (
  xval (s_aload_n (f := 0) (by decide +kernel) rfl) (
  xval (s_getf (i := 60) (by decide +kernel) rfl tin_M (by decide) (tc tw_766)) (
  xval (s_ifle (z := 5) (by decide +kernel) (by decide)) (
  xval (s_iconst (z := 0) (by decide +kernel) (by decide)) (
  xval (s_iret (by decide +kernel)) (
  xval (s_aload_n (f := 0) (by decide +kernel) rfl) (
  xval (s_lload_n (f := 1) (by decide +kernel) rfl) (
  xval (s_iload_n (f := 3) (by decide +kernel) rfl) (
  xval (s_iload (by decide +kernel)) (
  xval (s_callV (i := 120) c_M_put (by decide +kernel) rfl (xtt_good tw_878) rfl (tc tw_875) (tc tw_877) (tc ts_31) (tc tw_6) ⟨by decide, by decide, by decide +kernel⟩ ⟨by decide, by decide, rfl, rfl, by decide, by decide⟩ x0_e) (
  xval (s_aload_n (f := 0) (by decide +kernel) rfl) (
  xval (s_dup (by decide +kernel)) (
  xval (s_getf (i := 99) (by decide +kernel) rfl tin_M (by decide) (tc tw_767)) (
  xval (s_iconst (z := 1) (by decide +kernel) (by decide)) (
  xval (s_iadd (by decide +kernel)) (
  xval (s_puti (i := 99) (by decide +kernel) rfl tin_M (by decide) (tc tw_767) tM tM_ok nM rfl (by decide +kernel)) (
  xval (s_aload_n (f := 0) (by decide +kernel) rfl) (
  xval (s_getf (i := 99) (by decide +kernel) rfl tin_M (by decide) (tc tw_767)) (
  xval (s_iconst (z := 1) (by decide +kernel) (by decide)) (
  xval (s_isub (by decide +kernel)) (
  xval (s_iret (by decide +kernel)) (
  xval_nil))))))))))))))))))))))))))))))))))))))))))))))))))))
theorem c_M_declare : xMet xCl y_M_declare ws_M_declare rm_M_declare (xRun tb_M_declare 5) := xMet.of (by decide) rfl v_M_declare
def tb_M_has : xT := [(0, o_i (-1) 1), (1, o_istore 6 2), (3, o_i 0 1), (4, o_istore 7 2), (6, o_iload 7 2), (8, o_aload 0 1), (9, o_getf 5 6), (12, o_iload 1 1), (13, o_iaload), (14, o_ic (fun a b => b ≤ a) 67), (17, o_aload 0 1), (18, o_getf 5 7), (21, o_i 8 2), (23, o_iload 1 1), (24, o_ii (fun a b => a * b)), (25, o_iload 7 2), (27, o_ii (fun a b => a + b)), (28, o_laload), (29, o_lload 2 1), (30, o_lcmp), (31, o_ifn (fun a => a = 0) 57), (34, o_aload 0 1), (35, o_getf 5 9), (38, o_i 8 2), (40, o_iload 1 1), (41, o_ii (fun a b => a * b)), (42, o_iload 7 2), (44, o_ii (fun a b => a + b)), (45, o_laload), (46, o_lload 4 2), (48, o_lcmp), (49, o_ifn (fun a => a = 0) 57), (52, o_iload 7 2), (54, o_goto 59), (57, o_iload 6 2), (59, o_istore 6 2), (61, o_iinc 7 1), (64, o_goto 6), (67, o_iload 6 2), (69, o_iret)]
abbrev y_M_has : MethodName := ⟨"NameMoverModel", "has", "(IJJ)I"⟩
abbrev rm_M_has : Room := { frames := 0, cells := 0, slots := 0, locals := 0 }
abbrev ws_M_has : List Cond := Cond.code y_M_has prog_11_method_23_code 8 (some .int) :: xtt
set_option maxRecDepth 100000 in
theorem v_M_has : ∀ q ∈ tb_M_has, xSd (0, 0) x0 xCl "NameMoverModel" ws_M_has prog_11_method_23_code 8 (some .int) rm_M_has q :=
  xval (s_iconst (z := (-1)) (by decide +kernel) (by decide)) (
  xval (s_istore (by decide +kernel) (by decide)) (
  xval (s_iconst (z := 0) (by decide +kernel) (by decide)) (
  xval (s_istore (by decide +kernel) (by decide)) (
  xval (s_iload (by decide +kernel)) (
  xval (s_aload_n (f := 0) (by decide +kernel) rfl) (
  xval (s_getf (i := 24) (by decide +kernel) rfl tin_M (by decide) (tc tw_772)) (
  xval (s_iload_n (f := 1) (by decide +kernel) rfl) (
  xval (s_iaload (by decide +kernel)) (
  xval (s_icge (z := 53) (by decide +kernel) (by decide)) (
  xval (s_aload_n (f := 0) (by decide +kernel) rfl) (
  xval (s_getf (i := 27) (by decide +kernel) rfl tin_M (by decide) (tc tw_773)) (
  xval (s_bipush (z := 8) (by decide +kernel) (by decide)) (
  xval (s_iload_n (f := 1) (by decide +kernel) rfl) (
  xval (s_imul (by decide +kernel)) (
  xval (s_iload (by decide +kernel)) (
  xval (s_iadd (by decide +kernel)) (
  xval (s_laload (by decide +kernel)) (
  xval (s_lload_n (f := 2) (by decide +kernel) rfl) (
  xval (s_lcmp (by decide +kernel)) (
  xval (s_ifne (z := 26) (by decide +kernel) (by decide)) (
  xval (s_aload_n (f := 0) (by decide +kernel) rfl) (
  xval (s_getf (i := 33) (by decide +kernel) rfl tin_M (by decide) (tc tw_775)) (
  xval (s_bipush (z := 8) (by decide +kernel) (by decide)) (
  xval (s_iload_n (f := 1) (by decide +kernel) rfl) (
  xval (s_imul (by decide +kernel)) (
  xval (s_iload (by decide +kernel)) (
  xval (s_iadd (by decide +kernel)) (
  xval (s_laload (by decide +kernel)) (
  xval (s_lload (by decide +kernel)) (
  xval (s_lcmp (by decide +kernel)) (
  xval (s_ifne (z := 8) (by decide +kernel) (by decide)) (
  xval (s_iload (by decide +kernel)) (
  xval (s_goto (z := 5) (by decide +kernel) (by decide)) (
  xval (s_iload (by decide +kernel)) (
  xval (s_istore (by decide +kernel) (by decide)) (
  xval (s_iinc (z := 1) (by decide +kernel) (by decide) (by decide)) (
  xval (s_goto (z := (-58)) (by decide +kernel) (by decide)) (
  xval (s_iload (by decide +kernel)) (
  xval (s_iret (by decide +kernel)) (
  xval_nil))))))))))))))))))))))))))))))))))))))))
theorem c_M_has : xMet xCl y_M_has ws_M_has rm_M_has (xRun tb_M_has 8) := xMet.of (by decide) rfl v_M_has
end
section
def tb_M_putMember : xT := [(0, o_i 8 2), (2, o_iload 1 1), (3, o_ii (fun a b => a * b)), (4, o_aload 0 1), (5, o_getf 5 6), (8, o_iload 1 1), (9, o_iaload), (10, o_ii (fun a b => a + b)), (11, o_istore 7 2), (13, o_aload 0 1), (14, o_getf 5 7), (17, o_iload 7 2), (19, o_lload 2 1), (20, o_lastore), (21, o_aload 0 1), (22, o_getf 5 8), (25, o_iload 7 2), (27, o_lload 2 1), (28, o_lastore), (29, o_aload 0 1), (30, o_getf 5 9), (33, o_iload 7 2), (35, o_lload 4 2), (37, o_lastore), (38, o_aload 0 1), (39, o_getf 5 10), (42, o_iload 7 2), (44, o_iload 6 2), (46, o_bastore), (47, o_aload 0 1), (48, o_getf 5 6), (51, o_iload 1 1), (52, o_dup2), (53, o_iaload), (54, o_i 1 1), (55, o_ii (fun a b => a + b)), (56, o_iastore), (57, o_vret)]
abbrev y_M_putMember : MethodName := ⟨"NameMoverModel", "putMember", "(IJJZ)V"⟩
abbrev rm_M_putMember : Room := { frames := 0, cells := 0, slots := 0, locals := 0 }
abbrev ws_M_putMember : List Cond := Cond.code y_M_putMember prog_11_method_24_code 8 (none) :: xtt
set_option maxRecDepth 100000 in
theorem v_M_putMember : ∀ q ∈ tb_M_putMember, xSd (0, 0) x0 xCl "NameMoverModel" ws_M_putMember prog_11_method_24_code 8 (none) rm_M_putMember q :=
  xval (s_bipush (z := 8) (by decide +kernel) (by decide)) (
  xval (s_iload_n (f := 1) (by decide +kernel) rfl) (
  xval (s_imul (by decide +kernel)) (
  xval (s_aload_n (f := 0) (by decide +kernel) rfl) (
  xval (s_getf (i := 24) (by decide +kernel) rfl tin_M (by decide) (tc tw_772)) (
  xval (s_iload_n (f := 1) (by decide +kernel) rfl) (
  xval (s_iaload (by decide +kernel)) (
  xval (s_iadd (by decide +kernel)) (
  xval (s_istore (by decide +kernel) (by decide)) (
  xval (s_aload_n (f := 0) (by decide +kernel) rfl) (
  xval (s_getf (i := 27) (by decide +kernel) rfl tin_M (by decide) (tc tw_773)) (
  xval (s_iload (by decide +kernel)) (
  xval (s_lload_n (f := 2) (by decide +kernel) rfl) (
  xval (s_lastore (by decide +kernel)) (
  xval (s_aload_n (f := 0) (by decide +kernel) rfl) (
  xval (s_getf (i := 30) (by decide +kernel) rfl tin_M (by decide) (tc tw_774)) (
  xval (s_iload (by decide +kernel)) (
  xval (s_lload_n (f := 2) (by decide +kernel) rfl) (
  xval (s_lastore (by decide +kernel)) (
  xval (s_aload_n (f := 0) (by decide +kernel) rfl) (
  xval (s_getf (i := 33) (by decide +kernel) rfl tin_M (by decide) (tc tw_775)) (
  xval (s_iload (by decide +kernel)) (
  xval (s_lload (by decide +kernel)) (
  xval (s_lastore (by decide +kernel)) (
  xval (s_aload_n (f := 0) (by decide +kernel) rfl) (
  xval (s_getf (i := 36) (by decide +kernel) rfl tin_M (by decide) (tc tw_776)) (
  xval (s_iload (by decide +kernel)) (
  xval (s_iload (by decide +kernel)) (
  xval (s_bastore (by decide +kernel)) (
  xval (s_aload_n (f := 0) (by decide +kernel) rfl) (
  xval (s_getf (i := 24) (by decide +kernel) rfl tin_M (by decide) (tc tw_772)) (
  xval (s_iload_n (f := 1) (by decide +kernel) rfl) (
  xval (s_dup2 (by decide +kernel)) (
  xval (s_iaload (by decide +kernel)) (
  xval (s_iconst (z := 1) (by decide +kernel) (by decide)) (
  xval (s_iadd (by decide +kernel)) (
  xval (s_iastore (by decide +kernel)) (
  xval (s_vret (by decide +kernel)) (
  xval_nil))))))))))))))))))))))))))))))))))))))
theorem c_M_putMember : xMet xCl y_M_putMember ws_M_putMember rm_M_putMember (xRun tb_M_putMember 8) := xMet.of (by decide) rfl v_M_putMember
def tb_M_member : xT := [(0, o_aload 0 1), (1, o_aload 0 1), (2, o_iload 1 1), (3, o_callV (xRun tb_M_isClass 2) 5 1 0 0), (6, o_ifn (fun a => a = 0) 13), (9, o_i 1 1), (10, o_goto 72), (13, o_lload 2 1), (14, o_i 1 1), (15, o_call (xRun tb_M_isName 8) 2 0 0), (18, o_if (fun a => a = 0) 34), (21, o_aload 0 1), (22, o_lload 4 2), (24, o_aload 0 1), (25, o_getf 5 1), (28, o_callV (xRun tb_M_isDescriptor 5) 5 2 0 0), (31, o_ifn (fun a => a = 0) 38), (34, o_i 2 1), (35, o_goto 72), (38, o_aload 0 1), (39, o_callV (xRun tb_M_moves 4) 5 0 0 0), (42, o_if (fun a => 0 < a) 67), (45, o_aload 0 1), (46, o_getf 5 6), (49, o_iload 1 1), (50, o_iaload), (51, o_i 6 2), (53, o_ic (fun a b => a = b) 67), (56, o_aload 0 1), (57, o_iload 1 1), (58, o_lload 2 1), (59, o_lload 4 2), (61, o_callV (xRun tb_M_has 8) 5 3 0 0), (64, o_if (fun a => a < 0) 71), (67, o_i 3 1), (68, o_goto 72), (71, o_i 0 1), (72, o_puti 5 0), (75, o_aload 0 1), (76, o_getf 5 0), (79, o_if (fun a => a ≤ 0) 84), (82, o_i 0 1), (83, o_iret), (84, o_aload 0 1), (85, o_iload 1 1), (86, o_lload 2 1), (87, o_lload 4 2), (89, o_iload 6 2), (91, o_callV (xRun tb_M_putMember 8) 5 4 0 0), (94, o_aload 0 1), (95, o_getf 5 6), (98, o_iload 1 1), (99, o_iaload), (100, o_i 1 1), (101, o_ii (fun a b => a - b)), (102, o_iret)]
abbrev y_M_member : MethodName := ⟨"NameMoverModel", "member", "(IJJZ)I"⟩
abbrev rm_M_member : Room := { frames := 4, cells := 0, slots := 0, locals := 95 }
abbrev ws_M_member : List Cond := Cond.code y_M_member prog_11_method_25_code 7 (some .int) :: xtt
set_option maxRecDepth 100000 in
theorem v_M_member : ∀ q ∈ tb_M_member, xSd (0, 0) x0 xCl "NameMoverModel" ws_M_member prog_11_method_25_code 7 (some .int) rm_M_member q :=
  xval (s_aload_n (f := 0) (by decide +kernel) rfl) (
  xval (s_aload_n (f := 0) (by decide +kernel) rfl) (
  xval (s_iload_n (f := 1) (by decide +kernel) rfl) (
  xval (s_callV (i := 102) c_M_isClass (by decide +kernel) rfl (xtt_good tw_866) rfl (tc tw_863) (tc tw_865) (tc ts_28) (tc tw_6) ⟨by decide, by decide, by decide +kernel⟩ ⟨by decide, by decide, rfl, rfl, by decide, by decide⟩ x0_e) (
  xval (s_ifne (z := 7) (by decide +kernel) (by decide)) (
  xval (s_iconst (z := 1) (by decide +kernel) (by decide)) (
  xval (s_goto (z := 62) (by decide +kernel) (by decide)) (
  xval (s_lload_n (f := 2) (by decide +kernel) rfl) (
  xval (s_iconst (z := 1) (by decide +kernel) (by decide)) (
  xval (s_callS (i := 109) c_M_isName (by decide +kernel) rfl (xtt_good tw_846) (tc tw_844) (tc tw_845) (tc tw_6) ⟨by decide, by decide, by decide +kernel⟩ ⟨by decide, by decide, rfl, rfl, by decide, by decide⟩ x0_e) (
  xval (s_ifeq (z := 16) (by decide +kernel) (by decide)) (
  xval (s_aload_n (f := 0) (by decide +kernel) rfl) (
  xval (s_lload (by decide +kernel)) (
  xval (s_aload_n (f := 0) (by decide +kernel) rfl) (
  xval (s_getf (i := 99) (by decide +kernel) rfl tin_M (by decide) (tc tw_767)) (
  xval (s_callV (i := 124) c_M_isDescriptor (by decide +kernel) rfl (xtt_good tw_886) rfl (tc tw_883) (tc tw_885) (tc ts_32) (tc tw_6) ⟨by decide, by decide, by decide +kernel⟩ ⟨by decide, by decide, rfl, rfl, by decide, by decide⟩ x0_e) (
  xval (s_ifne (z := 7) (by decide +kernel) (by decide)) (
  xval (s_iconst (z := 2) (by decide +kernel) (by decide)) (
  xval (s_goto (z := 37) (by decide +kernel) (by decide)) (
  xval (s_aload_n (f := 0) (by decide +kernel) rfl) (
  xval (s_callV (i := 113) c_M_moves (by decide +kernel) rfl (xtt_good tw_870) rfl (tc tw_867) (tc tw_869) (tc ts_29) (tc tw_6) ⟨by decide, by decide, by decide +kernel⟩ ⟨by decide, by decide, rfl, rfl, by decide, by decide⟩ x0_e) (
  xval (s_ifgt (z := 25) (by decide +kernel) (by decide)) (
  xval (s_aload_n (f := 0) (by decide +kernel) rfl) (
  xval (s_getf (i := 24) (by decide +kernel) rfl tin_M (by decide) (tc tw_772)) (
  xval (s_iload_n (f := 1) (by decide +kernel) rfl) (
  xval (s_iaload (by decide +kernel)) (
  xval (s_bipush (z := 6) (by decide +kernel) (by decide)) (
  xval (s_iceq (z := 14) (by decide +kernel) (by decide)) (
  xval (s_aload_n (f := 0) (by decide +kernel) rfl) (
  xval (s_iload_n (f := 1) (by decide +kernel) rfl) (
  xval (s_lload_n (f := 2) (by decide +kernel) rfl) (
  xval (s_lload (by decide +kernel)) (
  xval (s_callV (i := 127) c_M_has (by decide +kernel) rfl (xtt_good tw_894) rfl (tc tw_891) (tc tw_893) (tc ts_34) (tc tw_6) ⟨by decide, by decide, by decide +kernel⟩ ⟨by decide, by decide, rfl, rfl, by decide, by decide⟩ x0_e) (
  xval (s_iflt (z := 7) (by decide +kernel) (by decide)) (
  xval (s_iconst (z := 3) (by decide +kernel) (by decide)) (
  xval (s_goto (z := 4) (by decide +kernel) (by decide)) (
  xval (s_iconst (z := 0) (by decide +kernel) (by decide)) (
  xval (s_puti (i := 60) (by decide +kernel) rfl tin_M (by decide) (tc tw_766) tM tM_ok nM rfl (by decide +kernel)) (
  xval (s_aload_n (f := 0) (by decide +kernel) rfl) (
  xval (s_getf (i := 60) (by decide +kernel) rfl tin_M (by decide) (tc tw_766)) (
  xval (s_ifle (z := 5) (by decide +kernel) (by decide)) (
  xval (s_iconst (z := 0) (by decide +kernel) (by decide)) (
  xval (s_iret (by decide +kernel)) (
  xval (s_aload_n (f := 0) (by decide +kernel) rfl) (
  xval (s_iload_n (f := 1) (by decide +kernel) rfl) (
  xval (s_lload_n (f := 2) (by decide +kernel) rfl) (
  xval (s_lload (by decide +kernel)) (
  xval (s_iload (by decide +kernel)) (
  xval (s_callV (i := 131) c_M_putMember (by decide +kernel) rfl (xtt_good tw_898) rfl (tc tw_895) (tc tw_897) (tc ts_35) (tc tw_6) ⟨by decide, by decide, by decide +kernel⟩ ⟨by decide, by decide, rfl, rfl, by decide, by decide⟩ x0_e) (
  xval (s_aload_n (f := 0) (by decide +kernel) rfl) (
  xval (s_getf (i := 24) (by decide +kernel) rfl tin_M (by decide) (tc tw_772)) (
  xval (s_iload_n (f := 1) (by decide +kernel) rfl) (
  xval (s_iaload (by decide +kernel)) (
  xval (s_iconst (z := 1) (by decide +kernel) (by decide)) (
  xval (s_isub (by decide +kernel)) (
  xval (s_iret (by decide +kernel)) (
  xval_nil))))))))))))))))))))))))))))))))))))))))))))))))))))))))
theorem c_M_member : xMet xCl y_M_member ws_M_member rm_M_member (xRun tb_M_member 7) := xMet.of (by decide) rfl v_M_member
def tb_M_moveClass : xT := [(0, o_aload 0 1), (1, o_aload 0 1), (2, o_iload 1 1), (3, o_callV (xRun tb_M_isClass 2) 5 1 0 0), (6, o_ifn (fun a => a = 0) 13), (9, o_i 1 1), (10, o_goto 26), (13, o_lload 2 1), (14, o_i 0 1), (15, o_call (xRun tb_M_isName 8) 2 0 0), (18, o_ifn (fun a => a = 0) 25), (21, o_i 2 1), (22, o_goto 26), (25, o_i 0 1), (26, o_puti 5 0), (29, o_aload 0 1), (30, o_getf 5 0), (33, o_ifn (fun a => a = 0) 43), (36, o_aload 0 1), (37, o_getf 5 3), (40, o_iload 1 1), (41, o_lload 2 1), (42, o_lastore), (43, o_vret)]
abbrev y_M_moveClass : MethodName := ⟨"NameMoverModel", "moveClass", "(IJ)V"⟩
abbrev rm_M_moveClass : Room := { frames := 4, cells := 0, slots := 0, locals := 95 }
abbrev ws_M_moveClass : List Cond := Cond.code y_M_moveClass prog_11_method_26_code 4 (none) :: xtt
set_option maxRecDepth 100000 in
theorem v_M_moveClass : ∀ q ∈ tb_M_moveClass, xSd (0, 0) x0 xCl "NameMoverModel" ws_M_moveClass prog_11_method_26_code 4 (none) rm_M_moveClass q :=
  xval (s_aload_n (f := 0) (by decide +kernel) rfl) (
  xval (s_aload_n (f := 0) (by decide +kernel) rfl) (
  xval (s_iload_n (f := 1) (by decide +kernel) rfl) (
  xval (s_callV (i := 102) c_M_isClass (by decide +kernel) rfl (xtt_good tw_866) rfl (tc tw_863) (tc tw_865) (tc ts_28) (tc tw_6) ⟨by decide, by decide, by decide +kernel⟩ ⟨by decide, by decide, rfl, rfl, by decide, by decide⟩ x0_e) (
  xval (s_ifne (z := 7) (by decide +kernel) (by decide)) (
  xval (s_iconst (z := 1) (by decide +kernel) (by decide)) (
  xval (s_goto (z := 16) (by decide +kernel) (by decide)) (
  xval (s_lload_n (f := 2) (by decide +kernel) rfl) (
  xval (s_iconst (z := 0) (by decide +kernel) (by decide)) (
  xval (s_callS (i := 109) c_M_isName (by decide +kernel) rfl (xtt_good tw_846) (tc tw_844) (tc tw_845) (tc tw_6) ⟨by decide, by decide, by decide +kernel⟩ ⟨by decide, by decide, rfl, rfl, by decide, by decide⟩ x0_e) (
  xval (s_ifne (z := 7) (by decide +kernel) (by decide)) (
  xval (s_iconst (z := 2) (by decide +kernel) (by decide)) (
  xval (s_goto (z := 4) (by decide +kernel) (by decide)) (
  xval (s_iconst (z := 0) (by decide +kernel) (by decide)) (
  xval (s_puti (i := 60) (by decide +kernel) rfl tin_M (by decide) (tc tw_766) tM tM_ok nM rfl (by decide +kernel)) (
  xval (s_aload_n (f := 0) (by decide +kernel) rfl) (
  xval (s_getf (i := 60) (by decide +kernel) rfl tin_M (by decide) (tc tw_766)) (
  xval (s_ifne (z := 10) (by decide +kernel) (by decide)) (
  xval (s_aload_n (f := 0) (by decide +kernel) rfl) (
  xval (s_getf (i := 13) (by decide +kernel) rfl tin_M (by decide) (tc tw_769)) (
  xval (s_iload_n (f := 1) (by decide +kernel) rfl) (
  xval (s_lload_n (f := 2) (by decide +kernel) rfl) (
  xval (s_lastore (by decide +kernel)) (
  xval (s_vret (by decide +kernel)) (
  xval_nil))))))))))))))))))))))))
theorem c_M_moveClass : xMet xCl y_M_moveClass ws_M_moveClass rm_M_moveClass (xRun tb_M_moveClass 4) := xMet.of (by decide) rfl v_M_moveClass
def tb_M_withPackage : xT := [(0, o_lload 0 1), (1, o_call (xRun tb_M_lastPart 4) 1 0 0), (4, o_istore 4 2), (6, o_lload 2 1), (7, o_call (xRun tb_M_length 3) 1 0 0), (10, o_istore 5 2), (12, o_iload 5 2), (14, o_if (fun a => a ≤ 0) 42), (17, o_lload 2 1), (18, o_iload 5 2), (20, o_i 8 2), (22, o_ic (fun a b => b ≤ a) 37), (25, o_l 47 3), (28, o_i 8 2), (30, o_iload 5 2), (32, o_ii (fun a b => a * b)), (33, o_li xshl), (34, o_goto 38), (37, o_l 0 1), (38, o_ll (fun a b => a ||| b)), (39, o_goto 43), (42, o_l 0 1), (43, o_lstore 6 2), (45, o_iload 5 2), (47, o_if (fun a => a ≤ 0) 57), (50, o_iload 5 2), (52, o_i 1 1), (53, o_ii (fun a b => a + b)), (54, o_goto 58), (57, o_i 0 1), (58, o_istore 8 2), (60, o_lload 0 1), (61, o_call (xRun tb_M_length 3) 1 0 0), (64, o_iload 4 2), (66, o_ii (fun a b => a - b)), (67, o_istore 9 2), (69, o_iload 8 2), (71, o_iload 9 2), (73, o_ii (fun a b => a + b)), (74, o_i 8 2), (76, o_ic (fun a b => a ≤ b) 81), (79, o_l 0 1), (80, o_lret), (81, o_i 0 1), (82, o_istore 10 2), (84, o_iload 10 2), (86, o_iload 9 2), (88, o_ic (fun a b => b ≤ a) 121), (91, o_lload 6 2), (93, o_lload 0 1), (94, o_iload 4 2), (96, o_iload 10 2), (98, o_ii (fun a b => a + b)), (99, o_call (xRun tb_M_charAt 3) 2 0 0), (102, o_i2l), (103, o_i 8 2), (105, o_iload 8 2), (107, o_iload 10 2), (109, o_ii (fun a b => a + b)), (110, o_ii (fun a b => a * b)), (111, o_li xshl), (112, o_ll (fun a b => a ||| b)), (113, o_lstore 6 2), (115, o_iinc 10 1), (118, o_goto 84), (121, o_lload 6 2), (123, o_lret)]
abbrev y_M_withPackage : MethodName := ⟨"NameMoverModel", "withPackage", "(JJ)J"⟩
abbrev rm_M_withPackage : Room := { frames := 2, cells := 0, slots := 0, locals := 45 }
abbrev ws_M_withPackage : List Cond := Cond.code y_M_withPackage prog_11_method_27_code 11 (some .long) :: xtt
set_option maxRecDepth 100000 in
theorem v_M_withPackage : ∀ q ∈ tb_M_withPackage, xSd (0, 0) x0 xCl "NameMoverModel" ws_M_withPackage prog_11_method_27_code 11 (some .long) rm_M_withPackage q :=
  xval (s_lload_n (f := 0) (by decide +kernel) rfl) (
  xval (s_callS (i := 85) c_M_lastPart (by decide +kernel) rfl (xtt_good tw_912) (tc tw_910) (tc tw_911) (tc tw_6) ⟨by decide, by decide, by decide +kernel⟩ ⟨by decide, by decide, rfl, rfl, by decide, by decide⟩ x0_e) (
  xval (s_istore (by decide +kernel) (by decide)) (
  xval (s_lload_n (f := 2) (by decide +kernel) rfl) (
  xval (s_callS (i := 70) c_M_length (by decide +kernel) rfl (xtt_good tw_849) (tc tw_847) (tc tw_848) (tc tw_6) ⟨by decide, by decide, by decide +kernel⟩ ⟨by decide, by decide, rfl, rfl, by decide, by decide⟩ x0_e) (
  xval (s_istore (by decide +kernel) (by decide)) (
  xval (s_iload (by decide +kernel)) (
  xval (s_ifle (z := 28) (by decide +kernel) (by decide)) (
  xval (s_lload_n (f := 2) (by decide +kernel) rfl) (
  xval (s_iload (by decide +kernel)) (
  xval (s_bipush (z := 8) (by decide +kernel) (by decide)) (
  xval (s_icge (z := 15) (by decide +kernel) (by decide)) (
  xval (s_ldc2 (i := 135) (by decide +kernel) (tc tw_919)) (
  xval (s_bipush (z := 8) (by decide +kernel) (by decide)) (
  xval (s_iload (by decide +kernel)) (
  xval (s_imul (by decide +kernel)) (
  xval (s_lshl (by decide +kernel)) (
  xval (s_goto (z := 4) (by decide +kernel) (by decide)) (
  xval (s_lconst (z := 0) (by decide +kernel) (by decide)) (
  xval (s_lor (by decide +kernel)) (
  xval (s_goto (z := 4) (by decide +kernel) (by decide)) (
  xval (s_lconst (z := 0) (by decide +kernel) (by decide)) (
  xval (s_lstore (by decide +kernel) (by decide)) (
  xval (s_iload (by decide +kernel)) (
  xval (s_ifle (z := 10) (by decide +kernel) (by decide)) (
  xval (s_iload (by decide +kernel)) (
  xval (s_iconst (z := 1) (by decide +kernel) (by decide)) (
  xval (s_iadd (by decide +kernel)) (
  xval (s_goto (z := 4) (by decide +kernel) (by decide)) (
  xval (s_iconst (z := 0) (by decide +kernel) (by decide)) (
  xval (s_istore (by decide +kernel) (by decide)) (
  xval (s_lload_n (f := 0) (by decide +kernel) rfl) (
  xval (s_callS (i := 70) c_M_length (by decide +kernel) rfl (xtt_good tw_849) (tc tw_847) (tc tw_848) (tc tw_6) ⟨by decide, by decide, by decide +kernel⟩ ⟨by decide, by decide, rfl, rfl, by decide, by decide⟩ x0_e) (
  xval (s_iload (by decide +kernel)) (
  xval (s_isub (by decide +kernel)) (
  xval (s_istore (by decide +kernel) (by decide)) (
  xval (s_iload (by decide +kernel)) (
  xval (s_iload (by decide +kernel)) (
  xval (s_iadd (by decide +kernel)) (
  xval (s_bipush (z := 8) (by decide +kernel) (by decide)) (
  xval (s_icle (z := 5) (by decide +kernel) (by decide)) (
  xval (s_lconst (z := 0) (by decide +kernel) (by decide)) (
  xval (s_lret (by decide +kernel)) (
  xval (s_iconst (z := 0) (by decide +kernel) (by decide)) (
  xval (s_istore (by decide +kernel) (by decide)) (
  xval (s_iload (by decide +kernel)) (
  xval (s_iload (by decide +kernel)) (
  xval (s_icge (z := 33) (by decide +kernel) (by decide)) (
  xval (s_lload (by decide +kernel)) (
  xval (s_lload_n (f := 0) (by decide +kernel) rfl) (
  xval (s_iload (by decide +kernel)) (
  xval (s_iload (by decide +kernel)) (
  xval (s_iadd (by decide +kernel)) (
  xval (s_callS (i := 66) c_M_charAt (by decide +kernel) rfl (xtt_good tw_852) (tc tw_850) (tc tw_851) (tc tw_6) ⟨by decide, by decide, by decide +kernel⟩ ⟨by decide, by decide, rfl, rfl, by decide, by decide⟩ x0_e) (
  xval (s_i2l (by decide +kernel)) (
  xval (s_bipush (z := 8) (by decide +kernel) (by decide)) (
  xval (s_iload (by decide +kernel)) (
  xval (s_iload (by decide +kernel)) (
  xval (s_iadd (by decide +kernel)) (
  xval (s_imul (by decide +kernel)) (
  xval (s_lshl (by decide +kernel)) (
  xval (s_lor (by decide +kernel)) (
  xval (s_lstore (by decide +kernel) (by decide)) (
  xval (s_iinc (z := 1) (by decide +kernel) (by decide) (by decide)) (
  xval (s_goto (z := (-34)) (by decide +kernel) (by decide)) (
  xval (s_lload (by decide +kernel)) (
  xval (s_lret (by decide +kernel)) (
  xval_nil)))))))))))))))))))))))))))))))))))))))))))))))))))))))))))))))))))
theorem c_M_withPackage : xMet xCl y_M_withPackage ws_M_withPackage rm_M_withPackage (xRun tb_M_withPackage 11) := xMet.of (by decide) rfl v_M_withPackage
def tb_M_movePackage : xT := [(0, o_lload 1 1), (1, o_l 0 1), (2, o_lcmp), (3, o_if (fun a => a = 0) 14), (6, o_lload 1 1), (7, o_i 0 1), (8, o_call (xRun tb_M_isName 8) 2 0 0), (11, o_if (fun a => a = 0) 32), (14, o_lload 3 1), (15, o_l 0 1), (16, o_lcmp), (17, o_if (fun a => a = 0) 28), (20, o_lload 3 1), (21, o_i 0 1), (22, o_call (xRun tb_M_isName 8) 2 0 0), (25, o_if (fun a => a = 0) 32), (28, o_i 1 1), (29, o_goto 33), (32, o_i 0 1), (33, o_istore 5 2), (35, o_i 0 1), (36, o_istore 6 2), (38, o_i 0 1), (39, o_istore 7 2), (41, o_iload 7 2), (43, o_aload 0 1), (44, o_getf 5 1), (47, o_ic (fun a b => b ≤ a) 112), (50, o_iload 5 2), (52, o_if (fun a => a = 0) 112), (55, o_aload 0 1), (56, o_getf 5 5), (59, o_iload 7 2), (61, o_baload), (62, o_ifn (fun a => a = 0) 106), (65, o_aload 0 1), (66, o_getf 5 2), (69, o_iload 7 2), (71, o_laload), (72, o_call (xRun tb_M_packageOf 3) 1 0 0), (75, o_lload 1 1), (76, o_lcmp), (77, o_ifn (fun a => a = 0) 106), (80, o_aload 0 1), (81, o_getf 5 2), (84, o_iload 7 2), (86, o_laload), (87, o_lload 3 1), (88, o_call (xRun tb_M_withPackage 11) 2 0 0), (91, o_l 0 1), (92, o_lcmp), (93, o_if (fun a => a = 0) 100), (96, o_i 1 1), (97, o_goto 101), (100, o_i 0 1), (101, o_istore 5 2), (103, o_iinc 6 1), (106, o_iinc 7 1), (109, o_goto 41), (112, o_aload 0 1), (113, o_iload 5 2), (115, o_if (fun a => a = 0) 122), (118, o_i 0 1), (119, o_goto 123), (122, o_i 1 1), (123, o_puti 5 0), (126, o_iload 5 2), (128, o_ifn (fun a => a = 0) 133), (131, o_i 0 1), (132, o_iret), (133, o_i 0 1), (134, o_istore 7 2), (136, o_iload 7 2), (138, o_aload 0 1), (139, o_getf 5 1), (142, o_ic (fun a b => b ≤ a) 206), (145, o_aload 0 1), (146, o_getf 5 5), (149, o_iload 7 2), (151, o_baload), (152, o_ifn (fun a => a = 0) 174), (155, o_aload 0 1), (156, o_getf 5 2), (159, o_iload 7 2), (161, o_laload), (162, o_call (xRun tb_M_packageOf 3) 1 0 0), (165, o_lload 1 1), (166, o_lcmp), (167, o_ifn (fun a => a = 0) 174), (170, o_i 1 1), (171, o_goto 175), (174, o_i 0 1), (175, o_istore 8 2), (177, o_iload 8 2), (179, o_if (fun a => a = 0) 200), (182, o_aload 0 1), (183, o_getf 5 3), (186, o_iload 7 2), (188, o_aload 0 1), (189, o_getf 5 2), (192, o_iload 7 2), (194, o_laload), (195, o_lload 3 1), (196, o_call (xRun tb_M_withPackage 11) 2 0 0), (199, o_lastore), (200, o_iinc 7 1), (203, o_goto 136), (206, o_iload 6 2), (208, o_iret)]
abbrev y_M_movePackage : MethodName := ⟨"NameMoverModel", "movePackage", "(JJ)I"⟩
abbrev rm_M_movePackage : Room := { frames := 4, cells := 0, slots := 0, locals := 95 }
abbrev ws_M_movePackage : List Cond := Cond.code y_M_movePackage prog_11_method_28_code 9 (some .int) :: xtt
set_option maxRecDepth 100000 in
theorem v_M_movePackage : ∀ q ∈ tb_M_movePackage, xSd (0, 0) x0 xCl "NameMoverModel" ws_M_movePackage prog_11_method_28_code 9 (some .int) rm_M_movePackage q :=
  xval (s_lload_n (f := 1) (by decide +kernel) rfl) (
  xval (s_lconst (z := 0) (by decide +kernel) (by decide)) (
  xval (s_lcmp (by decide +kernel)) (
  xval (s_ifeq (z := 11) (by decide +kernel) (by decide)) (
  xval (s_lload_n (f := 1) (by decide +kernel) rfl) (
  xval (s_iconst (z := 0) (by decide +kernel) (by decide)) (
  xval (s_callS (i := 109) c_M_isName (by decide +kernel) rfl (xtt_good tw_846) (tc tw_844) (tc tw_845) (tc tw_6) ⟨by decide, by decide, by decide +kernel⟩ ⟨by decide, by decide, rfl, rfl, by decide, by decide⟩ x0_e) (
  xval (s_ifeq (z := 21) (by decide +kernel) (by decide)) (
  xval (s_lload_n (f := 3) (by decide +kernel) rfl) (
  xval (s_lconst (z := 0) (by decide +kernel) (by decide)) (
  xval (s_lcmp (by decide +kernel)) (
  xval (s_ifeq (z := 11) (by decide +kernel) (by decide)) (
  xval (s_lload_n (f := 3) (by decide +kernel) rfl) (
  xval (s_iconst (z := 0) (by decide +kernel) (by decide)) (
  xval (s_callS (i := 109) c_M_isName (by decide +kernel) rfl (xtt_good tw_846) (tc tw_844) (tc tw_845) (tc tw_6) ⟨by decide, by decide, by decide +kernel⟩ ⟨by decide, by decide, rfl, rfl, by decide, by decide⟩ x0_e) (
  xval (s_ifeq (z := 7) (by decide +kernel) (by decide)) (
  xval (s_iconst (z := 1) (by decide +kernel) (by decide)) (
  xval (s_goto (z := 4) (by decide +kernel) (by decide)) (
  xval (s_iconst (z := 0) (by decide +kernel) (by decide)) (
  xval (s_istore (by decide +kernel) (by decide)) (
  xval (s_iconst (z := 0) (by decide +kernel) (by decide)) (
  xval (s_istore (by decide +kernel) (by decide)) (
  xval (s_iconst (z := 0) (by decide +kernel) (by decide)) (
  xval (s_istore (by decide +kernel) (by decide)) (
  xval (s_iload (by decide +kernel)) (
  xval (s_aload_n (f := 0) (by decide +kernel) rfl) (
  xval (s_getf (i := 99) (by decide +kernel) rfl tin_M (by decide) (tc tw_767)) (
  xval (s_icge (z := 65) (by decide +kernel) (by decide)) (
  xval (s_iload (by decide +kernel)) (
  xval (s_ifeq (z := 60) (by decide +kernel) (by decide)) (
  xval (s_aload_n (f := 0) (by decide +kernel) rfl) (
  xval (s_getf (i := 20) (by decide +kernel) rfl tin_M (by decide) (tc tw_771)) (
  xval (s_iload (by decide +kernel)) (
  xval (s_baload (by decide +kernel)) (
  xval (s_ifne (z := 44) (by decide +kernel) (by decide)) (
  xval (s_aload_n (f := 0) (by decide +kernel) rfl) (
  xval (s_getf (i := 7) (by decide +kernel) rfl tin_M (by decide) (tc tw_768)) (
  xval (s_iload (by decide +kernel)) (
  xval (s_laload (by decide +kernel)) (
  xval (s_callS (i := 137) c_M_packageOf (by decide +kernel) rfl (xtt_good tw_909) (tc tw_907) (tc tw_908) (tc tw_6) ⟨by decide, by decide, by decide +kernel⟩ ⟨by decide, by decide, rfl, rfl, by decide, by decide⟩ x0_e) (
  xval (s_lload_n (f := 1) (by decide +kernel) rfl) (
  xval (s_lcmp (by decide +kernel)) (
  xval (s_ifne (z := 29) (by decide +kernel) (by decide)) (
  xval (s_aload_n (f := 0) (by decide +kernel) rfl) (
  xval (s_getf (i := 7) (by decide +kernel) rfl tin_M (by decide) (tc tw_768)) (
  xval (s_iload (by decide +kernel)) (
  xval (s_laload (by decide +kernel)) (
  xval (s_lload_n (f := 3) (by decide +kernel) rfl) (
  xval (s_callS (i := 141) c_M_withPackage (by decide +kernel) rfl (xtt_good tw_918) (tc tw_916) (tc tw_917) (tc tw_6) ⟨by decide, by decide, by decide +kernel⟩ ⟨by decide, by decide, rfl, rfl, by decide, by decide⟩ x0_e) (
  xval (s_lconst (z := 0) (by decide +kernel) (by decide)) (
  xval (s_lcmp (by decide +kernel)) (
  xval (s_ifeq (z := 7) (by decide +kernel) (by decide)) (
  xval (s_iconst (z := 1) (by decide +kernel) (by decide)) (
  xval (s_goto (z := 4) (by decide +kernel) (by decide)) (
  xval (s_iconst (z := 0) (by decide +kernel) (by decide)) (
  xval (s_istore (by decide +kernel) (by decide)) (
  xval (s_iinc (z := 1) (by decide +kernel) (by decide) (by decide)) (
  xval (s_iinc (z := 1) (by decide +kernel) (by decide) (by decide)) (
  xval (s_goto (z := (-68)) (by decide +kernel) (by decide)) (
  xval (s_aload_n (f := 0) (by decide +kernel) rfl) (
  xval (s_iload (by decide +kernel)) (
  xval (s_ifeq (z := 7) (by decide +kernel) (by decide)) (
  xval (s_iconst (z := 0) (by decide +kernel) (by decide)) (
  xval (s_goto (z := 4) (by decide +kernel) (by decide)) (
  xval (s_iconst (z := 1) (by decide +kernel) (by decide)) (
  xval (s_puti (i := 60) (by decide +kernel) rfl tin_M (by decide) (tc tw_766) tM tM_ok nM rfl (by decide +kernel)) (
  xval (s_iload (by decide +kernel)) (
  xval (s_ifne (z := 5) (by decide +kernel) (by decide)) (
  xval (s_iconst (z := 0) (by decide +kernel) (by decide)) (
  xval (s_iret (by decide +kernel)) (
  xval (s_iconst (z := 0) (by decide +kernel) (by decide)) (
  xval (s_istore (by decide +kernel) (by decide)) (
  xval (s_iload (by decide +kernel)) (
  xval (s_aload_n (f := 0) (by decide +kernel) rfl) (
  xval (s_getf (i := 99) (by decide +kernel) rfl tin_M (by decide) (tc tw_767)) (
  xval (s_icge (z := 64) (by decide +kernel) (by decide)) (
  xval (s_aload_n (f := 0) (by decide +kernel) rfl) (
  xval (s_getf (i := 20) (by decide +kernel) rfl tin_M (by decide) (tc tw_771)) (
  xval (s_iload (by decide +kernel)) (
  xval (s_baload (by decide +kernel)) (
  xval (s_ifne (z := 22) (by decide +kernel) (by decide)) (
  xval (s_aload_n (f := 0) (by decide +kernel) rfl) (
  xval (s_getf (i := 7) (by decide +kernel) rfl tin_M (by decide) (tc tw_768)) (
  xval (s_iload (by decide +kernel)) (
  xval (s_laload (by decide +kernel)) (
  xval (s_callS (i := 137) c_M_packageOf (by decide +kernel) rfl (xtt_good tw_909) (tc tw_907) (tc tw_908) (tc tw_6) ⟨by decide, by decide, by decide +kernel⟩ ⟨by decide, by decide, rfl, rfl, by decide, by decide⟩ x0_e) (
  xval (s_lload_n (f := 1) (by decide +kernel) rfl) (
  xval (s_lcmp (by decide +kernel)) (
  xval (s_ifne (z := 7) (by decide +kernel) (by decide)) (
  xval (s_iconst (z := 1) (by decide +kernel) (by decide)) (
  xval (s_goto (z := 4) (by decide +kernel) (by decide)) (
  xval (s_iconst (z := 0) (by decide +kernel) (by decide)) (
  xval (s_istore (by decide +kernel) (by decide)) (
  xval (s_iload (by decide +kernel)) (
  xval (s_ifeq (z := 21) (by decide +kernel) (by decide)) (
  xval (s_aload_n (f := 0) (by decide +kernel) rfl) (
  xval (s_getf (i := 13) (by decide +kernel) rfl tin_M (by decide) (tc tw_769)) (
  xval (s_iload (by decide +kernel)) (
  xval (s_aload_n (f := 0) (by decide +kernel) rfl) (
  xval (s_getf (i := 7) (by decide +kernel) rfl tin_M (by decide) (tc tw_768)) (
  xval (s_iload (by decide +kernel)) (
  xval (s_laload (by decide +kernel)) (
  xval (s_lload_n (f := 3) (by decide +kernel) rfl) (
  xval (s_callS (i := 141) c_M_withPackage (by decide +kernel) rfl (xtt_good tw_918) (tc tw_916) (tc tw_917) (tc tw_6) ⟨by decide, by decide, by decide +kernel⟩ ⟨by decide, by decide, rfl, rfl, by decide, by decide⟩ x0_e) (
  xval (s_lastore (by decide +kernel)) (
  xval (s_iinc (z := 1) (by decide +kernel) (by decide) (by decide)) (
  xval (s_goto (z := (-67)) (by decide +kernel) (by decide)) (
  xval (s_iload (by decide +kernel)) (
  xval (s_iret (by decide +kernel)) (
  xval_nil)))))))))))))))))))))))))))))))))))))))))))))))))))))))))))))))))))))))))))))))))))))))))))))))))))))))))))))
theorem c_M_movePackage : xMet xCl y_M_movePackage ws_M_movePackage rm_M_movePackage (xRun tb_M_movePackage 9) := xMet.of (by decide) rfl v_M_movePackage
def tb_M_override : xT := [(0, o_aload 0 1), (1, o_getf 5 7), (4, o_iload 1 1), (5, o_laload), (6, o_aload 0 1), (7, o_getf 5 7), (10, o_iload 2 1), (11, o_laload), (12, o_lcmp), (13, o_ifn (fun a => a = 0) 36), (16, o_aload 0 1), (17, o_getf 5 9), (20, o_iload 1 1), (21, o_laload), (22, o_aload 0 1), (23, o_getf 5 9), (26, o_iload 2 1), (27, o_laload), (28, o_lcmp), (29, o_ifn (fun a => a = 0) 36), (32, o_i 1 1), (33, o_goto 37), (36, o_i 0 1), (37, o_istore 3 1), (38, o_iload 3 1), (39, o_if (fun a => a = 0) 98), (42, o_aload 0 1), (43, o_iload 1 1), (44, o_callV (xRun tb_M_isMethod 2) 5 1 0 0), (47, o_if (fun a => a = 0) 98), (50, o_aload 0 1), (51, o_getf 5 10), (54, o_iload 1 1), (55, o_baload), (56, o_ifn (fun a => a = 0) 98), (59, o_aload 0 1), (60, o_getf 5 10), (63, o_iload 2 1), (64, o_baload), (65, o_ifn (fun a => a = 0) 98), (68, o_iload 1 1), (69, o_i 8 2), (71, o_dr (fun a b => a / b)), (72, o_iload 2 1), (73, o_i 8 2), (75, o_dr (fun a b => a / b)), (76, o_ic (fun a b => a = b) 98), (79, o_aload 0 1), (80, o_iload 1 1), (81, o_i 8 2), (83, o_dr (fun a b => a / b)), (84, o_iload 2 1), (85, o_i 8 2), (87, o_dr (fun a b => a / b)), (88, o_callV (xRun tb_M_areRelated 3) 5 2 0 0), (91, o_if (fun a => a = 0) 98), (94, o_i 1 1), (95, o_goto 99), (98, o_i 0 1), (99, o_zret)]
abbrev y_M_override : MethodName := ⟨"NameMoverModel", "override", "(II)Z"⟩
abbrev rm_M_override : Room := { frames := 2, cells := 0, slots := 0, locals := 45 }
abbrev ws_M_override : List Cond := Cond.code y_M_override prog_11_method_29_code 4 (some .boolean) :: xtt
set_option maxRecDepth 100000 in
theorem v_M_override : ∀ q ∈ tb_M_override, xSd (0, 0) x0 xCl "NameMoverModel" ws_M_override prog_11_method_29_code 4 (some .boolean) rm_M_override q :=
  xval (s_aload_n (f := 0) (by decide +kernel) rfl) (
  xval (s_getf (i := 27) (by decide +kernel) rfl tin_M (by decide) (tc tw_773)) (
  xval (s_iload_n (f := 1) (by decide +kernel) rfl) (
  xval (s_laload (by decide +kernel)) (
  xval (s_aload_n (f := 0) (by decide +kernel) rfl) (
  xval (s_getf (i := 27) (by decide +kernel) rfl tin_M (by decide) (tc tw_773)) (
  xval (s_iload_n (f := 2) (by decide +kernel) rfl) (
  xval (s_laload (by decide +kernel)) (
  xval (s_lcmp (by decide +kernel)) (
  xval (s_ifne (z := 23) (by decide +kernel) (by decide)) (
  xval (s_aload_n (f := 0) (by decide +kernel) rfl) (
  xval (s_getf (i := 33) (by decide +kernel) rfl tin_M (by decide) (tc tw_775)) (
  xval (s_iload_n (f := 1) (by decide +kernel) rfl) (
  xval (s_laload (by decide +kernel)) (
  xval (s_aload_n (f := 0) (by decide +kernel) rfl) (
  xval (s_getf (i := 33) (by decide +kernel) rfl tin_M (by decide) (tc tw_775)) (
  xval (s_iload_n (f := 2) (by decide +kernel) rfl) (
  xval (s_laload (by decide +kernel)) (
  xval (s_lcmp (by decide +kernel)) (
  xval (s_ifne (z := 7) (by decide +kernel) (by decide)) (
  xval (s_iconst (z := 1) (by decide +kernel) (by decide)) (
  xval (s_goto (z := 4) (by decide +kernel) (by decide)) (
  xval (s_iconst (z := 0) (by decide +kernel) (by decide)) (
  xval (s_istore_n (f := 3) (by decide +kernel) rfl (by decide)) (
  xval (s_iload_n (f := 3) (by decide +kernel) rfl) (
  xval (s_ifeq (z := 59) (by decide +kernel) (by decide)) (
  xval (s_aload_n (f := 0) (by decide +kernel) rfl) (
  xval (s_iload_n (f := 1) (by decide +kernel) rfl) (
  xval (s_callV (i := 145) c_M_isMethod (by decide +kernel) rfl (xtt_good tw_939) rfl (tc tw_936) (tc tw_938) (tc ts_39) (tc tw_6) ⟨by decide, by decide, by decide +kernel⟩ ⟨by decide, by decide, rfl, rfl, by decide, by decide⟩ x0_e) (
  xval (s_ifeq (z := 51) (by decide +kernel) (by decide)) (
  xval (s_aload_n (f := 0) (by decide +kernel) rfl) (
  xval (s_getf (i := 36) (by decide +kernel) rfl tin_M (by decide) (tc tw_776)) (
  xval (s_iload_n (f := 1) (by decide +kernel) rfl) (
  xval (s_baload (by decide +kernel)) (
  xval (s_ifne (z := 42) (by decide +kernel) (by decide)) (
  xval (s_aload_n (f := 0) (by decide +kernel) rfl) (
  xval (s_getf (i := 36) (by decide +kernel) rfl tin_M (by decide) (tc tw_776)) (
  xval (s_iload_n (f := 2) (by decide +kernel) rfl) (
  xval (s_baload (by decide +kernel)) (
  xval (s_ifne (z := 33) (by decide +kernel) (by decide)) (
  xval (s_iload_n (f := 1) (by decide +kernel) rfl) (
  xval (s_bipush (z := 8) (by decide +kernel) (by decide)) (
  xval (s_idiv (by decide +kernel)) (
  xval (s_iload_n (f := 2) (by decide +kernel) rfl) (
  xval (s_bipush (z := 8) (by decide +kernel) (by decide)) (
  xval (s_idiv (by decide +kernel)) (
  xval (s_iceq (z := 22) (by decide +kernel) (by decide)) (
  xval (s_aload_n (f := 0) (by decide +kernel) rfl) (
  xval (s_iload_n (f := 1) (by decide +kernel) rfl) (
  xval (s_bipush (z := 8) (by decide +kernel) (by decide)) (
  xval (s_idiv (by decide +kernel)) (
  xval (s_iload_n (f := 2) (by decide +kernel) rfl) (
  xval (s_bipush (z := 8) (by decide +kernel) (by decide)) (
  xval (s_idiv (by decide +kernel)) (
  xval (s_callV (i := 148) c_M_areRelated (by decide +kernel) rfl (xtt_good tw_943) rfl (tc tw_940) (tc tw_942) (tc ts_40) (tc tw_6) ⟨by decide, by decide, by decide +kernel⟩ ⟨by decide, by decide, rfl, rfl, by decide, by decide⟩ x0_e) (
  xval (s_ifeq (z := 7) (by decide +kernel) (by decide)) (
  xval (s_iconst (z := 1) (by decide +kernel) (by decide)) (
  xval (s_goto (z := 4) (by decide +kernel) (by decide)) (
  xval (s_iconst (z := 0) (by decide +kernel) (by decide)) (
  xval (s_zret (by decide +kernel)) (
  xval_nil))))))))))))))))))))))))))))))))))))))))))))))))))))))))))))
theorem c_M_override : xMet xCl y_M_override ws_M_override rm_M_override (xRun tb_M_override 4) := xMet.of (by decide) rfl v_M_override
end
section
def tb_M_family : xT := [(0, o_i 0 1), (1, o_istore 2 1), (2, o_iload 2 1), (3, o_i 64 2), (5, o_ic (fun a b => b ≤ a) 30), (8, o_aload 0 1), (9, o_getf 5 11), (12, o_iload 2 1), (13, o_iload 2 1), (14, o_iload 1 1), (15, o_icn (fun a b => a = b) 22), (18, o_i 1 1), (19, o_goto 23), (22, o_i 0 1), (23, o_bastore), (24, o_iinc 2 1), (27, o_goto 2), (30, o_i 1 1), (31, o_istore 2 1), (32, o_i 1 1), (33, o_istore 3 1), (34, o_iload 3 1), (35, o_if (fun a => a = 0) 161), (38, o_i 0 1), (39, o_istore 3 1), (40, o_i 0 1), (41, o_istore 4 2), (43, o_iload 4 2), (45, o_i 64 2), (47, o_ic (fun a b => b ≤ a) 158), (50, o_i 0 1), (51, o_istore 5 2), (53, o_iload 5 2), (55, o_i 64 2), (57, o_ic (fun a b => b ≤ a) 152), (60, o_aload 0 1), (61, o_getf 5 11), (64, o_iload 4 2), (66, o_baload), (67, o_if (fun a => a = 0) 152), (70, o_iload 5 2), (72, o_i 8 2), (74, o_dr (fun a b => a / b)), (75, o_aload 0 1), (76, o_getf 5 1), (79, o_ic (fun a b => b ≤ a) 104), (82, o_iload 5 2), (84, o_i 8 2), (86, o_dr (fun a b => a - a / b * b)), (87, o_aload 0 1), (88, o_getf 5 6), (91, o_iload 5 2), (93, o_i 8 2), (95, o_dr (fun a b => a / b)), (96, o_iaload), (97, o_ic (fun a b => b ≤ a) 104), (100, o_i 1 1), (101, o_goto 105), (104, o_i 0 1), (105, o_istore 6 2), (107, o_iload 6 2), (109, o_if (fun a => a = 0) 146), (112, o_aload 0 1), (113, o_getf 5 11), (116, o_iload 5 2), (118, o_baload), (119, o_ifn (fun a => a = 0) 146), (122, o_aload 0 1), (123, o_iload 4 2), (125, o_iload 5 2), (127, o_callV (xRun tb_M_override 4) 5 2 0 0), (130, o_if (fun a => a = 0) 146), (133, o_aload 0 1), (134, o_getf 5 11), (137, o_iload 5 2), (139, o_i 1 1), (140, o_bastore), (141, o_iinc 2 1), (144, o_i 1 1), (145, o_istore 3 1), (146, o_iinc 5 1), (149, o_goto 53), (152, o_iinc 4 1), (155, o_goto 43), (158, o_goto 34), (161, o_iload 2 1), (162, o_iret)]
abbrev y_M_family : MethodName := ⟨"NameMoverModel", "family", "(I)I"⟩
abbrev rm_M_family : Room := { frames := 3, cells := 0, slots := 0, locals := 68 }
abbrev ws_M_family : List Cond := Cond.code y_M_family prog_11_method_30_code 7 (some .int) :: xtt
set_option maxRecDepth 100000 in
theorem v_M_family : ∀ q ∈ tb_M_family, xSd (0, 0) x0 xCl "NameMoverModel" ws_M_family prog_11_method_30_code 7 (some .int) rm_M_family q :=
  xval (s_iconst (z := 0) (by decide +kernel) (by decide)) (
  xval (s_istore_n (f := 2) (by decide +kernel) rfl (by decide)) (
  xval (s_iload_n (f := 2) (by decide +kernel) rfl) (
  xval (s_bipush (z := 64) (by decide +kernel) (by decide)) (
  xval (s_icge (z := 25) (by decide +kernel) (by decide)) (
  xval (s_aload_n (f := 0) (by decide +kernel) rfl) (
  xval (s_getf (i := 39) (by decide +kernel) rfl tin_M (by decide) (tc tw_777)) (
  xval (s_iload_n (f := 2) (by decide +kernel) rfl) (
  xval (s_iload_n (f := 2) (by decide +kernel) rfl) (
  xval (s_iload_n (f := 1) (by decide +kernel) rfl) (
  xval (s_icne (z := 7) (by decide +kernel) (by decide)) (
  xval (s_iconst (z := 1) (by decide +kernel) (by decide)) (
  xval (s_goto (z := 4) (by decide +kernel) (by decide)) (
  xval (s_iconst (z := 0) (by decide +kernel) (by decide)) (
  xval (s_bastore (by decide +kernel)) (
  xval (s_iinc (z := 1) (by decide +kernel) (by decide) (by decide)) (
  xval (s_goto (z := (-25)) (by decide +kernel) (by decide)) (
  xval (s_iconst (z := 1) (by decide +kernel) (by decide)) (
  xval (s_istore_n (f := 2) (by decide +kernel) rfl (by decide)) (
  xval (s_iconst (z := 1) (by decide +kernel) (by decide)) (
  xval (s_istore_n (f := 3) (by decide +kernel) rfl (by decide)) (
  xval (s_iload_n (f := 3) (by decide +kernel) rfl) (
  xval (s_ifeq (z := 126) (by decide +kernel) (by decide)) (
  xval (s_iconst (z := 0) (by decide +kernel) (by decide)) (
  xval (s_istore_n (f := 3) (by decide +kernel) rfl (by decide)) (
  xval (s_iconst (z := 0) (by decide +kernel) (by decide)) (
  xval (s_istore (by decide +kernel) (by decide)) (
  xval (s_iload (by decide +kernel)) (
  xval (s_bipush (z := 64) (by decide +kernel) (by decide)) (
  xval (s_icge (z := 111) (by decide +kernel) (by decide)) (
  xval (s_iconst (z := 0) (by decide +kernel) (by decide)) (
  xval (s_istore (by decide +kernel) (by decide)) (
  xval (s_iload (by decide +kernel)) (
  xval (s_bipush (z := 64) (by decide +kernel) (by decide)) (
  xval (s_icge (z := 95) (by decide +kernel) (by decide)) (
  xval (s_aload_n (f := 0) (by decide +kernel) rfl) (
  xval (s_getf (i := 39) (by decide +kernel) rfl tin_M (by decide) (tc tw_777)) (
  xval (s_iload (by decide +kernel)) (
  xval (s_baload (by decide +kernel)) (
  xval (s_ifeq (z := 85) (by decide +kernel) (by decide)) (
  xval (s_iload (by decide +kernel)) (
  xval (s_bipush (z := 8) (by decide +kernel) (by decide)) (
  xval (s_idiv (by decide +kernel)) (
  xval (s_aload_n (f := 0) (by decide +kernel) rfl) (
  xval (s_getf (i := 99) (by decide +kernel) rfl tin_M (by decide) (tc tw_767)) (
  xval (s_icge (z := 25) (by decide +kernel) (by decide)) (
  xval (s_iload (by decide +kernel)) (
  xval (s_bipush (z := 8) (by decide +kernel) (by decide)) (
  xval (s_irem (by decide +kernel)) (
  xval (s_aload_n (f := 0) (by decide +kernel) rfl) (
  xval (s_getf (i := 24) (by decide +kernel) rfl tin_M (by decide) (tc tw_772)) (
  xval (s_iload (by decide +kernel)) (
  xval (s_bipush (z := 8) (by decide +kernel) (by decide)) (
  xval (s_idiv (by decide +kernel)) (
  xval (s_iaload (by decide +kernel)) (
  xval (s_icge (z := 7) (by decide +kernel) (by decide)) (
  xval (s_iconst (z := 1) (by decide +kernel) (by decide)) (
  xval (s_goto (z := 4) (by decide +kernel) (by decide)) (
  xval (s_iconst (z := 0) (by decide +kernel) (by decide)) (
  xval (s_istore (by decide +kernel) (by decide)) (
  xval (s_iload (by decide +kernel)) (
  xval (s_ifeq (z := 37) (by decide +kernel) (by decide)) (
  xval (s_aload_n (f := 0) (by decide +kernel) rfl) (
  xval (s_getf (i := 39) (by decide +kernel) rfl tin_M (by decide) (tc tw_777)) (
  xval (s_iload (by decide +kernel)) (
  xval (s_baload (by decide +kernel)) (
  xval (s_ifne (z := 27) (by decide +kernel) (by decide)) (
  xval (s_aload_n (f := 0) (by decide +kernel) rfl) (
  xval (s_iload (by decide +kernel)) (
  xval (s_iload (by decide +kernel)) (
  xval (s_callV (i := 151) c_M_override (by decide +kernel) rfl (xtt_good tw_935) rfl (tc tw_932) (tc tw_934) (tc ts_38) (tc tw_6) ⟨by decide, by decide, by decide +kernel⟩ ⟨by decide, by decide, rfl, rfl, by decide, by decide⟩ x0_e) (
  xval (s_ifeq (z := 16) (by decide +kernel) (by decide)) (
  xval (s_aload_n (f := 0) (by decide +kernel) rfl) (
  xval (s_getf (i := 39) (by decide +kernel) rfl tin_M (by decide) (tc tw_777)) (
  xval (s_iload (by decide +kernel)) (
  xval (s_iconst (z := 1) (by decide +kernel) (by decide)) (
  xval (s_bastore (by decide +kernel)) (
  xval (s_iinc (z := 1) (by decide +kernel) (by decide) (by decide)) (
  xval (s_iconst (z := 1) (by decide +kernel) (by decide)) (
  xval (s_istore_n (f := 3) (by decide +kernel) rfl (by decide)) (
  xval (s_iinc (z := 1) (by decide +kernel) (by decide) (by decide)) (
  xval (s_goto (z := (-96)) (by decide +kernel) (by decide)) (
  xval (s_iinc (z := 1) (by decide +kernel) (by decide) (by decide)) (
  xval (s_goto (z := (-112)) (by decide +kernel) (by decide)) (
  xval (s_goto (z := (-124)) (by decide +kernel) (by decide)) (
  xval (s_iload_n (f := 2) (by decide +kernel) rfl) (
  xval (s_iret (by decide +kernel)) (
  xval_nil)))))))))))))))))))))))))))))))))))))))))))))))))))))))))))))))))))))))))))))))))))))))
theorem c_M_family : xMet xCl y_M_family ws_M_family rm_M_family (xRun tb_M_family 7) := xMet.of (by decide) rfl v_M_family
def tb_M_moveMember : xT := [(0, o_aload 0 1), (1, o_aload 0 1), (2, o_iload 1 1), (3, o_iload 2 1), (4, o_callV (xRun tb_M_isMember 3) 5 2 0 0), (7, o_ifn (fun a => a = 0) 14), (10, o_i 1 1), (11, o_goto 27), (14, o_lload 3 1), (15, o_i 1 1), (16, o_call (xRun tb_M_isName 8) 2 0 0), (19, o_ifn (fun a => a = 0) 26), (22, o_i 2 1), (23, o_goto 27), (26, o_i 0 1), (27, o_puti 5 0), (30, o_aload 0 1), (31, o_getf 5 0), (34, o_if (fun a => a ≤ 0) 39), (37, o_i 0 1), (38, o_iret), (39, o_aload 0 1), (40, o_i 8 2), (42, o_iload 1 1), (43, o_ii (fun a b => a * b)), (44, o_iload 2 1), (45, o_ii (fun a b => a + b)), (46, o_callV (xRun tb_M_family 7) 5 1 0 0), (49, o_istore 5 2), (51, o_i 0 1), (52, o_istore 6 2), (54, o_iload 6 2), (56, o_i 64 2), (58, o_ic (fun a b => b ≤ a) 95), (61, o_aload 0 1), (62, o_getf 5 8), (65, o_iload 6 2), (67, o_aload 0 1), (68, o_getf 5 11), (71, o_iload 6 2), (73, o_baload), (74, o_if (fun a => a = 0) 81), (77, o_lload 3 1), (78, o_goto 88), (81, o_aload 0 1), (82, o_getf 5 8), (85, o_iload 6 2), (87, o_laload), (88, o_lastore), (89, o_iinc 6 1), (92, o_goto 54), (95, o_iload 5 2), (97, o_iret)]
abbrev y_M_moveMember : MethodName := ⟨"NameMoverModel", "moveMember", "(IIJ)I"⟩
abbrev rm_M_moveMember : Room := { frames := 4, cells := 0, slots := 0, locals := 95 }
abbrev ws_M_moveMember : List Cond := Cond.code y_M_moveMember prog_11_method_31_code 7 (some .int) :: xtt
set_option maxRecDepth 100000 in
theorem v_M_moveMember : ∀ q ∈ tb_M_moveMember, xSd (0, 0) x0 xCl "NameMoverModel" ws_M_moveMember prog_11_method_31_code 7 (some .int) rm_M_moveMember q :=
  xval (s_aload_n (f := 0) (by decide +kernel) rfl) (
  xval (s_aload_n (f := 0) (by decide +kernel) rfl) (
  xval (s_iload_n (f := 1) (by decide +kernel) rfl) (
  xval (s_iload_n (f := 2) (by decide +kernel) rfl) (
  xval (s_callV (i := 154) c_M_isMember (by decide +kernel) rfl (xtt_good tw_927) rfl (tc tw_924) (tc tw_926) (tc ts_36) (tc tw_6) ⟨by decide, by decide, by decide +kernel⟩ ⟨by decide, by decide, rfl, rfl, by decide, by decide⟩ x0_e) (
  xval (s_ifne (z := 7) (by decide +kernel) (by decide)) (
  xval (s_iconst (z := 1) (by decide +kernel) (by decide)) (
  xval (s_goto (z := 16) (by decide +kernel) (by decide)) (
  xval (s_lload_n (f := 3) (by decide +kernel) rfl) (
  xval (s_iconst (z := 1) (by decide +kernel) (by decide)) (
  xval (s_callS (i := 109) c_M_isName (by decide +kernel) rfl (xtt_good tw_846) (tc tw_844) (tc tw_845) (tc tw_6) ⟨by decide, by decide, by decide +kernel⟩ ⟨by decide, by decide, rfl, rfl, by decide, by decide⟩ x0_e) (
  xval (s_ifne (z := 7) (by decide +kernel) (by decide)) (
  xval (s_iconst (z := 2) (by decide +kernel) (by decide)) (
  xval (s_goto (z := 4) (by decide +kernel) (by decide)) (
  xval (s_iconst (z := 0) (by decide +kernel) (by decide)) (
  xval (s_puti (i := 60) (by decide +kernel) rfl tin_M (by decide) (tc tw_766) tM tM_ok nM rfl (by decide +kernel)) (
  xval (s_aload_n (f := 0) (by decide +kernel) rfl) (
  xval (s_getf (i := 60) (by decide +kernel) rfl tin_M (by decide) (tc tw_766)) (
  xval (s_ifle (z := 5) (by decide +kernel) (by decide)) (
  xval (s_iconst (z := 0) (by decide +kernel) (by decide)) (
  xval (s_iret (by decide +kernel)) (
  xval (s_aload_n (f := 0) (by decide +kernel) rfl) (
  xval (s_bipush (z := 8) (by decide +kernel) (by decide)) (
  xval (s_iload_n (f := 1) (by decide +kernel) rfl) (
  xval (s_imul (by decide +kernel)) (
  xval (s_iload_n (f := 2) (by decide +kernel) rfl) (
  xval (s_iadd (by decide +kernel)) (
  xval (s_callV (i := 157) c_M_family (by decide +kernel) rfl (xtt_good tw_931) rfl (tc tw_928) (tc tw_930) (tc ts_37) (tc tw_6) ⟨by decide, by decide, by decide +kernel⟩ ⟨by decide, by decide, rfl, rfl, by decide, by decide⟩ x0_e) (
  xval (s_istore (by decide +kernel) (by decide)) (
  xval (s_iconst (z := 0) (by decide +kernel) (by decide)) (
  xval (s_istore (by decide +kernel) (by decide)) (
  xval (s_iload (by decide +kernel)) (
  xval (s_bipush (z := 64) (by decide +kernel) (by decide)) (
  xval (s_icge (z := 37) (by decide +kernel) (by decide)) (
  xval (s_aload_n (f := 0) (by decide +kernel) rfl) (
  xval (s_getf (i := 30) (by decide +kernel) rfl tin_M (by decide) (tc tw_774)) (
  xval (s_iload (by decide +kernel)) (
  xval (s_aload_n (f := 0) (by decide +kernel) rfl) (
  xval (s_getf (i := 39) (by decide +kernel) rfl tin_M (by decide) (tc tw_777)) (
  xval (s_iload (by decide +kernel)) (
  xval (s_baload (by decide +kernel)) (
  xval (s_ifeq (z := 7) (by decide +kernel) (by decide)) (
  xval (s_lload_n (f := 3) (by decide +kernel) rfl) (
  xval (s_goto (z := 10) (by decide +kernel) (by decide)) (
  xval (s_aload_n (f := 0) (by decide +kernel) rfl) (
  xval (s_getf (i := 30) (by decide +kernel) rfl tin_M (by decide) (tc tw_774)) (
  xval (s_iload (by decide +kernel)) (
  xval (s_laload (by decide +kernel)) (
  xval (s_lastore (by decide +kernel)) (
  xval (s_iinc (z := 1) (by decide +kernel) (by decide) (by decide)) (
  xval (s_goto (z := (-38)) (by decide +kernel) (by decide)) (
  xval (s_iload (by decide +kernel)) (
  xval (s_iret (by decide +kernel)) (
  xval_nil)))))))))))))))))))))))))))))))))))))))))))))))))))))
theorem c_M_moveMember : xMet xCl y_M_moveMember ws_M_moveMember rm_M_moveMember (xRun tb_M_moveMember 7) := xMet.of (by decide) rfl v_M_moveMember
def tb_M_isThere : xT := [(0, o_iload 1 1), (1, o_i 8 2), (3, o_dr (fun a b => a / b)), (4, o_aload 0 1), (5, o_getf 5 1), (8, o_ic (fun a b => b ≤ a) 31), (11, o_iload 1 1), (12, o_i 8 2), (14, o_dr (fun a b => a - a / b * b)), (15, o_aload 0 1), (16, o_getf 5 6), (19, o_iload 1 1), (20, o_i 8 2), (22, o_dr (fun a b => a / b)), (23, o_iaload), (24, o_ic (fun a b => b ≤ a) 31), (27, o_i 1 1), (28, o_goto 32), (31, o_i 0 1), (32, o_zret)]
abbrev y_M_isThere : MethodName := ⟨"NameMoverModel", "isThere", "(I)Z"⟩
abbrev rm_M_isThere : Room := { frames := 0, cells := 0, slots := 0, locals := 0 }
abbrev ws_M_isThere : List Cond := Cond.code y_M_isThere prog_11_method_32_code 2 (some .boolean) :: xtt
set_option maxRecDepth 100000 in
theorem v_M_isThere : ∀ q ∈ tb_M_isThere, xSd (0, 0) x0 xCl "NameMoverModel" ws_M_isThere prog_11_method_32_code 2 (some .boolean) rm_M_isThere q :=
  xval (s_iload_n (f := 1) (by decide +kernel) rfl) (
  xval (s_bipush (z := 8) (by decide +kernel) (by decide)) (
  xval (s_idiv (by decide +kernel)) (
  xval (s_aload_n (f := 0) (by decide +kernel) rfl) (
  xval (s_getf (i := 99) (by decide +kernel) rfl tin_M (by decide) (tc tw_767)) (
  xval (s_icge (z := 23) (by decide +kernel) (by decide)) (
  xval (s_iload_n (f := 1) (by decide +kernel) rfl) (
  xval (s_bipush (z := 8) (by decide +kernel) (by decide)) (
  xval (s_irem (by decide +kernel)) (
  xval (s_aload_n (f := 0) (by decide +kernel) rfl) (
  xval (s_getf (i := 24) (by decide +kernel) rfl tin_M (by decide) (tc tw_772)) (
  xval (s_iload_n (f := 1) (by decide +kernel) rfl) (
  xval (s_bipush (z := 8) (by decide +kernel) (by decide)) (
  xval (s_idiv (by decide +kernel)) (
  xval (s_iaload (by decide +kernel)) (
  xval (s_icge (z := 7) (by decide +kernel) (by decide)) (
  xval (s_iconst (z := 1) (by decide +kernel) (by decide)) (
  xval (s_goto (z := 4) (by decide +kernel) (by decide)) (
  xval (s_iconst (z := 0) (by decide +kernel) (by decide)) (
  xval (s_zret (by decide +kernel)) (
  xval_nil))))))))))))))))))))
theorem c_M_isThere : xMet xCl y_M_isThere ws_M_isThere rm_M_isThere (xRun tb_M_isThere 2) := xMet.of (by decide) rfl v_M_isThere
def tb_M_meet : xT := [(0, o_aload 0 1), (1, o_iload 1 1), (2, o_i 8 2), (4, o_dr (fun a b => a / b)), (5, o_iload 2 1), (6, o_i 8 2), (8, o_dr (fun a b => a / b)), (9, o_callV (xRun tb_M_areRelated 3) 5 2 0 0), (12, o_if (fun a => a = 0) 67), (15, o_aload 0 1), (16, o_getf 5 9), (19, o_iload 1 1), (20, o_laload), (21, o_aload 0 1), (22, o_getf 5 9), (25, o_iload 2 1), (26, o_laload), (27, o_lcmp), (28, o_ifn (fun a => a = 0) 67), (31, o_aload 0 1), (32, o_getf 5 8), (35, o_iload 1 1), (36, o_laload), (37, o_aload 0 1), (38, o_getf 5 8), (41, o_iload 2 1), (42, o_laload), (43, o_lcmp), (44, o_ifn (fun a => a = 0) 67), (47, o_aload 0 1), (48, o_getf 5 7), (51, o_iload 1 1), (52, o_laload), (53, o_aload 0 1), (54, o_getf 5 7), (57, o_iload 2 1), (58, o_laload), (59, o_lcmp), (60, o_if (fun a => a = 0) 67), (63, o_i 1 1), (64, o_goto 68), (67, o_i 0 1), (68, o_zret)]
abbrev y_M_meet : MethodName := ⟨"NameMoverModel", "meet", "(II)Z"⟩
abbrev rm_M_meet : Room := { frames := 2, cells := 0, slots := 0, locals := 45 }
abbrev ws_M_meet : List Cond := Cond.code y_M_meet prog_11_method_33_code 3 (some .boolean) :: xtt
set_option maxRecDepth 100000 in
theorem v_M_meet : ∀ q ∈ tb_M_meet, xSd (0, 0) x0 xCl "NameMoverModel" ws_M_meet prog_11_method_33_code 3 (some .boolean) rm_M_meet q :=
  xval (s_aload_n (f := 0) (by decide +kernel) rfl) (
  xval (s_iload_n (f := 1) (by decide +kernel) rfl) (
  xval (s_bipush (z := 8) (by decide +kernel) (by decide)) (
  xval (s_idiv (by decide +kernel)) (
  xval (s_iload_n (f := 2) (by decide +kernel) rfl) (
  xval (s_bipush (z := 8) (by decide +kernel) (by decide)) (
  xval (s_idiv (by decide +kernel)) (
  xval (s_callV (i := 148) c_M_areRelated (by decide +kernel) rfl (xtt_good tw_943) rfl (tc tw_940) (tc tw_942) (tc ts_40) (tc tw_6) ⟨by decide, by decide, by decide +kernel⟩ ⟨by decide, by decide, rfl, rfl, by decide, by decide⟩ x0_e) (
  xval (s_ifeq (z := 55) (by decide +kernel) (by decide)) (
  xval (s_aload_n (f := 0) (by decide +kernel) rfl) (
  xval (s_getf (i := 33) (by decide +kernel) rfl tin_M (by decide) (tc tw_775)) (
  xval (s_iload_n (f := 1) (by decide +kernel) rfl) (
  xval (s_laload (by decide +kernel)) (
  xval (s_aload_n (f := 0) (by decide +kernel) rfl) (
  xval (s_getf (i := 33) (by decide +kernel) rfl tin_M (by decide) (tc tw_775)) (
  xval (s_iload_n (f := 2) (by decide +kernel) rfl) (
  xval (s_laload (by decide +kernel)) (
  xval (s_lcmp (by decide +kernel)) (
  xval (s_ifne (z := 39) (by decide +kernel) (by decide)) (
  xval (s_aload_n (f := 0) (by decide +kernel) rfl) (
  xval (s_getf (i := 30) (by decide +kernel) rfl tin_M (by decide) (tc tw_774)) (
  xval (s_iload_n (f := 1) (by decide +kernel) rfl) (
  xval (s_laload (by decide +kernel)) (
  xval (s_aload_n (f := 0) (by decide +kernel) rfl) (
  xval (s_getf (i := 30) (by decide +kernel) rfl tin_M (by decide) (tc tw_774)) (
  xval (s_iload_n (f := 2) (by decide +kernel) rfl) (
  xval (s_laload (by decide +kernel)) (
  xval (s_lcmp (by decide +kernel)) (
  xval (s_ifne (z := 23) (by decide +kernel) (by decide)) (
  xval (s_aload_n (f := 0) (by decide +kernel) rfl) (
  xval (s_getf (i := 27) (by decide +kernel) rfl tin_M (by decide) (tc tw_773)) (
  xval (s_iload_n (f := 1) (by decide +kernel) rfl) (
  xval (s_laload (by decide +kernel)) (
  xval (s_aload_n (f := 0) (by decide +kernel) rfl) (
  xval (s_getf (i := 27) (by decide +kernel) rfl tin_M (by decide) (tc tw_773)) (
  xval (s_iload_n (f := 2) (by decide +kernel) rfl) (
  xval (s_laload (by decide +kernel)) (
  xval (s_lcmp (by decide +kernel)) (
  xval (s_ifeq (z := 7) (by decide +kernel) (by decide)) (
  xval (s_iconst (z := 1) (by decide +kernel) (by decide)) (
  xval (s_goto (z := 4) (by decide +kernel) (by decide)) (
  xval (s_iconst (z := 0) (by decide +kernel) (by decide)) (
  xval (s_zret (by decide +kernel)) (
  xval_nil)))))))))))))))))))))))))))))))))))))))))))
theorem c_M_meet : xMet xCl y_M_meet ws_M_meet rm_M_meet (xRun tb_M_meet 3) := xMet.of (by decide) rfl v_M_meet
def tb_M_parts : xT := [(0, o_aload 0 1), (1, o_getf 5 2), (4, o_iload 1 1), (5, o_laload), (6, o_call (xRun tb_M_packageOf 3) 1 0 0), (9, o_aload 0 1), (10, o_getf 5 2), (13, o_iload 2 1), (14, o_laload), (15, o_call (xRun tb_M_packageOf 3) 1 0 0), (18, o_lcmp), (19, o_ifn (fun a => a = 0) 26), (22, o_i 1 1), (23, o_goto 27), (26, o_i 0 1), (27, o_aload 0 1), (28, o_getf 5 3), (31, o_iload 1 1), (32, o_laload), (33, o_call (xRun tb_M_packageOf 3) 1 0 0), (36, o_aload 0 1), (37, o_getf 5 3), (40, o_iload 2 1), (41, o_laload), (42, o_call (xRun tb_M_packageOf 3) 1 0 0), (45, o_lcmp), (46, o_ifn (fun a => a = 0) 53), (49, o_i 1 1), (50, o_goto 54), (53, o_i 0 1), (54, o_ic (fun a b => a = b) 61), (57, o_i 1 1), (58, o_goto 62), (61, o_i 0 1), (62, o_zret)]
abbrev y_M_parts : MethodName := ⟨"NameMoverModel", "parts", "(II)Z"⟩
abbrev rm_M_parts : Room := { frames := 3, cells := 0, slots := 0, locals := 67 }
abbrev ws_M_parts : List Cond := Cond.code y_M_parts prog_11_method_34_code 3 (some .boolean) :: xtt
set_option maxRecDepth 100000 in
theorem v_M_parts : ∀ q ∈ tb_M_parts, xSd (0, 0) x0 xCl "NameMoverModel" ws_M_parts prog_11_method_34_code 3 (some .boolean) rm_M_parts q :=
  xval (s_aload_n (f := 0) (by decide +kernel) rfl) (
  xval (s_getf (i := 7) (by decide +kernel) rfl tin_M (by decide) (tc tw_768)) (
  xval (s_iload_n (f := 1) (by decide +kernel) rfl) (
  xval (s_laload (by decide +kernel)) (
  xval (s_callS (i := 137) c_M_packageOf (by decide +kernel) rfl (xtt_good tw_909) (tc tw_907) (tc tw_908) (tc tw_6) ⟨by decide, by decide, by decide +kernel⟩ ⟨by decide, by decide, rfl, rfl, by decide, by decide⟩ x0_e) (
  xval (s_aload_n (f := 0) (by decide +kernel) rfl) (
  xval (s_getf (i := 7) (by decide +kernel) rfl tin_M (by decide) (tc tw_768)) (
  xval (s_iload_n (f := 2) (by decide +kernel) rfl) (
  xval (s_laload (by decide +kernel)) (
  xval (s_callS (i := 137) c_M_packageOf (by decide +kernel) rfl (xtt_good tw_909) (tc tw_907) (tc tw_908) (tc tw_6) ⟨by decide, by decide, by decide +kernel⟩ ⟨by decide, by decide, rfl, rfl, by decide, by decide⟩ x0_e) (
  xval (s_lcmp (by decide +kernel)) (
  xval (s_ifne (z := 7) (by decide +kernel) (by decide)) (
  xval (s_iconst (z := 1) (by decide +kernel) (by decide)) (
  xval (s_goto (z := 4) (by decide +kernel) (by decide)) (
  xval (s_iconst (z := 0) (by decide +kernel) (by decide)) (
  xval (s_aload_n (f := 0) (by decide +kernel) rfl) (
  xval (s_getf (i := 13) (by decide +kernel) rfl tin_M (by decide) (tc tw_769)) (
  xval (s_iload_n (f := 1) (by decide +kernel) rfl) (
  xval (s_laload (by decide +kernel)) (
  xval (s_callS (i := 137) c_M_packageOf (by decide +kernel) rfl (xtt_good tw_909) (tc tw_907) (tc tw_908) (tc tw_6) ⟨by decide, by decide, by decide +kernel⟩ ⟨by decide, by decide, rfl, rfl, by decide, by decide⟩ x0_e) (
  xval (s_aload_n (f := 0) (by decide +kernel) rfl) (
  xval (s_getf (i := 13) (by decide +kernel) rfl tin_M (by decide) (tc tw_769)) (
  xval (s_iload_n (f := 2) (by decide +kernel) rfl) (
  xval (s_laload (by decide +kernel)) (
  xval (s_callS (i := 137) c_M_packageOf (by decide +kernel) rfl (xtt_good tw_909) (tc tw_907) (tc tw_908) (tc tw_6) ⟨by decide, by decide, by decide +kernel⟩ ⟨by decide, by decide, rfl, rfl, by decide, by decide⟩ x0_e) (
  xval (s_lcmp (by decide +kernel)) (
  xval (s_ifne (z := 7) (by decide +kernel) (by decide)) (
  xval (s_iconst (z := 1) (by decide +kernel) (by decide)) (
  xval (s_goto (z := 4) (by decide +kernel) (by decide)) (
  xval (s_iconst (z := 0) (by decide +kernel) (by decide)) (
  xval (s_iceq (z := 7) (by decide +kernel) (by decide)) (
  xval (s_iconst (z := 1) (by decide +kernel) (by decide)) (
  xval (s_goto (z := 4) (by decide +kernel) (by decide)) (
  xval (s_iconst (z := 0) (by decide +kernel) (by decide)) (
  xval (s_zret (by decide +kernel)) (
  xval_nil)))))))))))))))))))))))))))))))))))
theorem c_M_parts : xMet xCl y_M_parts ws_M_parts rm_M_parts (xRun tb_M_parts 3) := xMet.of (by decide) rfl v_M_parts
def tb_M_trouble : xT := [(0, o_i 0 1), (1, o_istore 1 1), (2, o_iload 1 1), (3, o_aload 0 1), (4, o_getf 5 1), (7, o_ic (fun a b => b ≤ a) 50), (10, o_aload 0 1), (11, o_getf 5 5), (14, o_iload 1 1), (15, o_baload), (16, o_if (fun a => a = 0) 44), (19, o_aload 0 1), (20, o_getf 5 2), (23, o_iload 1 1), (24, o_laload), (25, o_aload 0 1), (26, o_getf 5 3), (29, o_iload 1 1), (30, o_laload), (31, o_lcmp), (32, o_if (fun a => a = 0) 44), (35, o_i 10000 3), (38, o_i 100 2), (40, o_iload 1 1), (41, o_ii (fun a b => a * b)), (42, o_ii (fun a b => a + b)), (43, o_iret), (44, o_iinc 1 1), (47, o_goto 2), (50, o_i 0 1), (51, o_istore 1 1), (52, o_iload 1 1), (53, o_i 64 2), (55, o_ic (fun a b => b ≤ a) 109), (58, o_aload 0 1), (59, o_iload 1 1), (60, o_callV (xRun tb_M_isThere 2) 5 1 0 0), (63, o_if (fun a => a = 0) 103), (66, o_aload 0 1), (67, o_getf 5 5), (70, o_iload 1 1), (71, o_i 8 2), (73, o_dr (fun a b => a / b)), (74, o_baload), (75, o_if (fun a => a = 0) 103), (78, o_aload 0 1), (79, o_getf 5 7), (82, o_iload 1 1), (83, o_laload), (84, o_aload 0 1), (85, o_getf 5 8), (88, o_iload 1 1), (89, o_laload), (90, o_lcmp), (91, o_if (fun a => a = 0) 103), (94, o_i 20000 3), (97, o_i 100 2), (99, o_iload 1 1), (100, o_ii (fun a b => a * b)), (101, o_ii (fun a b => a + b)), (102, o_iret), (103, o_iinc 1 1), (106, o_goto 52), (109, o_i 3 1), (110, o_istore 1 1), (111, o_iload 1 1), (112, o_i 4 1), (113, o_ic (fun a b => b < a) 211), (116, o_i 0 1), (117, o_istore 2 1), (118, o_iload 2 1), (119, o_aload 0 1), (120, o_getf 5 1), (123, o_ic (fun a b => b ≤ a) 205), (126, o_iload 2 1), (127, o_i 1 1), (128, o_ii (fun a b => a + b)), (129, o_istore 3 1), (130, o_iload 3 1), (131, o_aload 0 1), (132, o_getf 5 1), (135, o_ic (fun a b => b ≤ a) 199), (138, o_iload 1 1), (139, o_i 3 1), (140, o_icn (fun a b => a = b) 167), (143, o_aload 0 1), (144, o_getf 5 3), (147, o_iload 2 1), (148, o_laload), (149, o_aload 0 1), (150, o_getf 5 3), (153, o_iload 3 1), (154, o_laload), (155, o_lcmp), (156, o_ifn (fun a => a = 0) 163), (159, o_i 1 1), (160, o_goto 173), (163, o_i 0 1), (164, o_goto 173), (167, o_aload 0 1), (168, o_iload 2 1), (169, o_iload 3 1), (170, o_callV (xRun tb_M_parts 3) 5 2 0 0), (173, o_istore 4 2), (175, o_iload 4 2), (177, o_if (fun a => a = 0) 193), (180, o_i 10000 3), (183, o_iload 1 1), (184, o_ii (fun a b => a * b)), (185, o_i 100 2), (187, o_iload 2 1), (188, o_ii (fun a b => a * b)), (189, o_ii (fun a b => a + b)), (190, o_iload 3 1), (191, o_ii (fun a b => a + b)), (192, o_iret), (193, o_iinc 3 1), (196, o_goto 130), (199, o_iinc 2 1), (202, o_goto 118), (205, o_iinc 1 1), (208, o_goto 111), (211, o_i 0 1), (212, o_istore 1 1), (213, o_iload 1 1), (214, o_i 64 2), (216, o_ic (fun a b => b ≤ a) 276), (219, o_iload 1 1), (220, o_i 1 1), (221, o_ii (fun a b => a + b)), (222, o_istore 2 1), (223, o_iload 2 1), (224, o_i 64 2), (226, o_ic (fun a b => b ≤ a) 270), (229, o_aload 0 1), (230, o_iload 1 1), (231, o_callV (xRun tb_M_isThere 2) 5 1 0 0), (234, o_if (fun a => a = 0) 270), (237, o_aload 0 1), (238, o_iload 2 1), (239, o_callV (xRun tb_M_isThere 2) 5 1 0 0), (242, o_if (fun a => a = 0) 264), (245, o_aload 0 1), (246, o_iload 1 1), (247, o_iload 2 1), (248, o_callV (xRun tb_M_meet 3) 5 2 0 0), (251, o_if (fun a => a = 0) 264), (254, o_i 50000 2), (256, o_i 100 2), (258, o_iload 1 1), (259, o_ii (fun a b => a * b)), (260, o_ii (fun a b => a + b)), (261, o_iload 2 1), (262, o_ii (fun a b => a + b)), (263, o_iret), (264, o_iinc 2 1), (267, o_goto 223), (270, o_iinc 1 1), (273, o_goto 213), (276, o_i 0 1), (277, o_iret)]
abbrev y_M_trouble : MethodName := ⟨"NameMoverModel", "trouble", "()I"⟩
abbrev rm_M_trouble : Room := { frames := 4, cells := 0, slots := 0, locals := 89 }
abbrev ws_M_trouble : List Cond := Cond.code y_M_trouble prog_11_method_35_code 5 (some .int) :: xtt
set_option maxRecDepth 100000 in
theorem v_M_trouble : ∀ q ∈ tb_M_trouble, xSd (0, 0) x0 xCl "NameMoverModel" ws_M_trouble prog_11_method_35_code 5 (some .int) rm_M_trouble q :=
  xval (s_iconst (z := 0) (by decide +kernel) (by decide)) (
  xval (s_istore_n (f := 1) (by decide +kernel) rfl (by decide)) (
  xval (s_iload_n (f := 1) (by decide +kernel) rfl) (
  xval (s_aload_n (f := 0) (by decide +kernel) rfl) (
  xval (s_getf (i := 99) (by decide +kernel) rfl tin_M (by decide) (tc tw_767)) (
  xval (s_icge (z := 43) (by decide +kernel) (by decide)) (
  xval (s_aload_n (f := 0) (by decide +kernel) rfl) (
  xval (s_getf (i := 20) (by decide +kernel) rfl tin_M (by decide) (tc tw_771)) (
  xval (s_iload_n (f := 1) (by decide +kernel) rfl) (
  xval (s_baload (by decide +kernel)) (
  xval (s_ifeq (z := 28) (by decide +kernel) (by decide)) (
  xval (s_aload_n (f := 0) (by decide +kernel) rfl) (
  xval (s_getf (i := 7) (by decide +kernel) rfl tin_M (by decide) (tc tw_768)) (
  xval (s_iload_n (f := 1) (by decide +kernel) rfl) (
  xval (s_laload (by decide +kernel)) (
  xval (s_aload_n (f := 0) (by decide +kernel) rfl) (
  xval (s_getf (i := 13) (by decide +kernel) rfl tin_M (by decide) (tc tw_769)) (
  xval (s_iload_n (f := 1) (by decide +kernel) rfl) (
  xval (s_laload (by decide +kernel)) (
  xval (s_lcmp (by decide +kernel)) (
  xval (s_ifeq (z := 12) (by decide +kernel) (by decide)) (
  xval (s_sipush (z := 10000) (by decide +kernel) (by decide)) (
  xval (s_bipush (z := 100) (by decide +kernel) (by decide)) (
  xval (s_iload_n (f := 1) (by decide +kernel) rfl) (
  xval (s_imul (by decide +kernel)) (
  xval (s_iadd (by decide +kernel)) (
  xval (s_iret (by decide +kernel)) (
  xval (s_iinc (z := 1) (by decide +kernel) (by decide) (by decide)) (
  xval (s_goto (z := (-45)) (by decide +kernel) (by decide)) (
  xval (s_iconst (z := 0) (by decide +kernel) (by decide)) (
  xval (s_istore_n (f := 1) (by decide +kernel) rfl (by decide)) (
  xval (s_iload_n (f := 1) (by decide +kernel) rfl) (
  xval (s_bipush (z := 64) (by decide +kernel) (by decide)) (
  xval (s_icge (z := 54) (by decide +kernel) (by decide)) (
  xval (s_aload_n (f := 0) (by decide +kernel) rfl) (
  xval (s_iload_n (f := 1) (by decide +kernel) rfl) (
  xval (s_callV (i := 161) c_M_isThere (by decide +kernel) rfl (xtt_good tw_959) rfl (tc tw_956) (tc tw_958) (tc ts_43) (tc tw_6) ⟨by decide, by decide, by decide +kernel⟩ ⟨by decide, by decide, rfl, rfl, by decide, by decide⟩ x0_e) (
  xval (s_ifeq (z := 40) (by decide +kernel) (by decide)) (
  xval (s_aload_n (f := 0) (by decide +kernel) rfl) (
  xval (s_getf (i := 20) (by decide +kernel) rfl tin_M (by decide) (tc tw_771)) (
  xval (s_iload_n (f := 1) (by decide +kernel) rfl) (
  xval (s_bipush (z := 8) (by decide +kernel) (by decide)) (
  xval (s_idiv (by decide +kernel)) (
  xval (s_baload (by decide +kernel)) (
  xval (s_ifeq (z := 28) (by decide +kernel) (by decide)) (
  xval (s_aload_n (f := 0) (by decide +kernel) rfl) (
  xval (s_getf (i := 27) (by decide +kernel) rfl tin_M (by decide) (tc tw_773)) (
  xval (s_iload_n (f := 1) (by decide +kernel) rfl) (
  xval (s_laload (by decide +kernel)) (
  xval (s_aload_n (f := 0) (by decide +kernel) rfl) (
  xval (s_getf (i := 30) (by decide +kernel) rfl tin_M (by decide) (tc tw_774)) (
  xval (s_iload_n (f := 1) (by decide +kernel) rfl) (
  xval (s_laload (by decide +kernel)) (
  xval (s_lcmp (by decide +kernel)) (
  xval (s_ifeq (z := 12) (by decide +kernel) (by decide)) (
  xval (s_sipush (z := 20000) (by decide +kernel) (by decide)) (
  xval (s_bipush (z := 100) (by decide +kernel) (by decide)) (
  xval (s_iload_n (f := 1) (by decide +kernel) rfl) (
  xval (s_imul (by decide +kernel)) (
  xval (s_iadd (by decide +kernel)) (
  xval (s_iret (by decide +kernel)) (
  xval (s_iinc (z := 1) (by decide +kernel) (by decide) (by decide)) (
  xval (s_goto (z := (-54)) (by decide +kernel) (by decide)) (
  xval (s_iconst (z := 3) (by decide +kernel) (by decide)) (
  xval (s_istore_n (f := 1) (by decide +kernel) rfl (by decide)) (
  xval (s_iload_n (f := 1) (by decide +kernel) rfl) (
  xval (s_iconst (z := 4) (by decide +kernel) (by decide)) (
  xval (s_icgt (z := 98) (by decide +kernel) (by decide)) (
  xval (s_iconst (z := 0) (by decide +kernel) (by decide)) (
  xval (s_istore_n (f := 2) (by decide +kernel) rfl (by decide)) (
  xval (s_iload_n (f := 2) (by decide +kernel) rfl) (
  xval (s_aload_n (f := 0) (by decide +kernel) rfl) (
  xval (s_getf (i := 99) (by decide +kernel) rfl tin_M (by decide) (tc tw_767)) (
  xval (s_icge (z := 82) (by decide +kernel) (by decide)) (
  xval (s_iload_n (f := 2) (by decide +kernel) rfl) (
  xval (s_iconst (z := 1) (by decide +kernel) (by decide)) (
  xval (s_iadd (by decide +kernel)) (
  xval (s_istore_n (f := 3) (by decide +kernel) rfl (by decide)) (
  xval (s_iload_n (f := 3) (by decide +kernel) rfl) (
  xval (s_aload_n (f := 0) (by decide +kernel) rfl) (
  xval (s_getf (i := 99) (by decide +kernel) rfl tin_M (by decide) (tc tw_767)) (
  xval (s_icge (z := 64) (by decide +kernel) (by decide)) (
  xval (s_iload_n (f := 1) (by decide +kernel) rfl) (
  xval (s_iconst (z := 3) (by decide +kernel) (by decide)) (
  xval (s_icne (z := 27) (by decide +kernel) (by decide)) (
  xval (s_aload_n (f := 0) (by decide +kernel) rfl) (
  xval (s_getf (i := 13) (by decide +kernel) rfl tin_M (by decide) (tc tw_769)) (
  xval (s_iload_n (f := 2) (by decide +kernel) rfl) (
  xval (s_laload (by decide +kernel)) (
  xval (s_aload_n (f := 0) (by decide +kernel) rfl) (
  xval (s_getf (i := 13) (by decide +kernel) rfl tin_M (by decide) (tc tw_769)) (
  xval (s_iload_n (f := 3) (by decide +kernel) rfl) (
  xval (s_laload (by decide +kernel)) (
  xval (s_lcmp (by decide +kernel)) (
  xval (s_ifne (z := 7) (by decide +kernel) (by decide)) (
  xval (s_iconst (z := 1) (by decide +kernel) (by decide)) (
  xval (s_goto (z := 13) (by decide +kernel) (by decide)) (
  xval (s_iconst (z := 0) (by decide +kernel) (by decide)) (
  xval (s_goto (z := 9) (by decide +kernel) (by decide)) (
  xval (s_aload_n (f := 0) (by decide +kernel) rfl) (
  xval (s_iload_n (f := 2) (by decide +kernel) rfl) (
  xval (s_iload_n (f := 3) (by decide +kernel) rfl) (
  xval (s_callV (i := 164) c_M_parts (by decide +kernel) rfl (xtt_good tw_963) rfl (tc tw_960) (tc tw_962) (tc ts_44) (tc tw_6) ⟨by decide, by decide, by decide +kernel⟩ ⟨by decide, by decide, rfl, rfl, by decide, by decide⟩ x0_e) (
  xval (s_istore (by decide +kernel) (by decide)) (
  xval (s_iload (by decide +kernel)) (
  xval (s_ifeq (z := 16) (by decide +kernel) (by decide)) (
  xval (s_sipush (z := 10000) (by decide +kernel) (by decide)) (
  xval (s_iload_n (f := 1) (by decide +kernel) rfl) (
  xval (s_imul (by decide +kernel)) (
  xval (s_bipush (z := 100) (by decide +kernel) (by decide)) (
  xval (s_iload_n (f := 2) (by decide +kernel) rfl) (
  xval (s_imul (by decide +kernel)) (
  xval (s_iadd (by decide +kernel)) (
  xval (s_iload_n (f := 3) (by decide +kernel) rfl) (
  xval (s_iadd (by decide +kernel)) (
  xval (s_iret (by decide +kernel)) (
  xval (s_iinc (z := 1) (by decide +kernel) (by decide) (by decide)) (
  xval (s_goto (z := (-66)) (by decide +kernel) (by decide)) (
  xval (s_iinc (z := 1) (by decide +kernel) (by decide) (by decide)) (
  xval (s_goto (z := (-84)) (by decide +kernel) (by decide)) (
  xval (s_iinc (z := 1) (by decide +kernel) (by decide) (by decide)) (
  xval (s_goto (z := (-97)) (by decide +kernel) (by decide)) (
  xval (s_iconst (z := 0) (by decide +kernel) (by decide)) (
  xval (s_istore_n (f := 1) (by decide +kernel) rfl (by decide)) (
  xval (s_iload_n (f := 1) (by decide +kernel) rfl) (
  xval (s_bipush (z := 64) (by decide +kernel) (by decide)) (
  xval (s_icge (z := 60) (by decide +kernel) (by decide)) (
  xval (s_iload_n (f := 1) (by decide +kernel) rfl) (
  xval (s_iconst (z := 1) (by decide +kernel) (by decide)) (
  xval (s_iadd (by decide +kernel)) (
  xval (s_istore_n (f := 2) (by decide +kernel) rfl (by decide)) (
  xval (s_iload_n (f := 2) (by decide +kernel) rfl) (
  xval (s_bipush (z := 64) (by decide +kernel) (by decide)) (
  xval (s_icge (z := 44) (by decide +kernel) (by decide)) (
  xval (s_aload_n (f := 0) (by decide +kernel) rfl) (
  xval (s_iload_n (f := 1) (by decide +kernel) rfl) (
  xval (s_callV (i := 161) c_M_isThere (by decide +kernel) rfl (xtt_good tw_959) rfl (tc tw_956) (tc tw_958) (tc ts_43) (tc tw_6) ⟨by decide, by decide, by decide +kernel⟩ ⟨by decide, by decide, rfl, rfl, by decide, by decide⟩ x0_e) (
  xval (s_ifeq (z := 36) (by decide +kernel) (by decide)) (
  xval (s_aload_n (f := 0) (by decide +kernel) rfl) (
  xval (s_iload_n (f := 2) (by decide +kernel) rfl) (
  xval (s_callV (i := 161) c_M_isThere (by decide +kernel) rfl (xtt_good tw_959) rfl (tc tw_956) (tc tw_958) (tc ts_43) (tc tw_6) ⟨by decide, by decide, by decide +kernel⟩ ⟨by decide, by decide, rfl, rfl, by decide, by decide⟩ x0_e) (
  xval (s_ifeq (z := 22) (by decide +kernel) (by decide)) (
  xval (s_aload_n (f := 0) (by decide +kernel) rfl) (
  xval (s_iload_n (f := 1) (by decide +kernel) rfl) (
  xval (s_iload_n (f := 2) (by decide +kernel) rfl) (
  xval (s_callV (i := 167) c_M_meet (by decide +kernel) rfl (xtt_good tw_967) rfl (tc tw_964) (tc tw_966) (tc ts_45) (tc tw_6) ⟨by decide, by decide, by decide +kernel⟩ ⟨by decide, by decide, rfl, rfl, by decide, by decide⟩ x0_e) (
  xval (s_ifeq (z := 13) (by decide +kernel) (by decide)) (
  xval (s_ldc (i := 170) (by decide +kernel) (tc tw_968)) (
  xval (s_bipush (z := 100) (by decide +kernel) (by decide)) (
  xval (s_iload_n (f := 1) (by decide +kernel) rfl) (
  xval (s_imul (by decide +kernel)) (
  xval (s_iadd (by decide +kernel)) (
  xval (s_iload_n (f := 2) (by decide +kernel) rfl) (
  xval (s_iadd (by decide +kernel)) (
  xval (s_iret (by decide +kernel)) (
  xval (s_iinc (z := 1) (by decide +kernel) (by decide) (by decide)) (
  xval (s_goto (z := (-44)) (by decide +kernel) (by decide)) (
  xval (s_iinc (z := 1) (by decide +kernel) (by decide) (by decide)) (
  xval (s_goto (z := (-60)) (by decide +kernel) (by decide)) (
  xval (s_iconst (z := 0) (by decide +kernel) (by decide)) (
  xval (s_iret (by decide +kernel)) (
  xval_nil)))))))))))))))))))))))))))))))))))))))))))))))))))))))))))))))))))))))))))))))))))))))))))))))))))))))))))))))))))))))))))))))))))))))))))))))))))))))))))))))))
theorem c_M_trouble : xMet xCl y_M_trouble ws_M_trouble rm_M_trouble (xRun tb_M_trouble 5) := xMet.of (by decide) rfl v_M_trouble
end
section
def tb_M_problem : xT := [(0, o_aload 0 1), (1, o_i 0 1), (2, o_puti 5 0), (5, o_aload 0 1), (6, o_callV (xRun tb_M_trouble 5) 5 0 0 0), (9, o_iret)]
abbrev y_M_problem : MethodName := ⟨"NameMoverModel", "problem", "()I"⟩
abbrev rm_M_problem : Room := { frames := 5, cells := 0, slots := 0, locals := 113 }
abbrev ws_M_problem : List Cond := Cond.code y_M_problem prog_11_method_36_code 1 (some .int) :: xtt
set_option maxRecDepth 100000 in
theorem v_M_problem : ∀ q ∈ tb_M_problem, xSd (0, 0) x0 xCl "NameMoverModel" ws_M_problem prog_11_method_36_code 1 (some .int) rm_M_problem q :=
  xval (s_aload_n (f := 0) (by decide +kernel) rfl) (
  xval (s_iconst (z := 0) (by decide +kernel) (by decide)) (
  xval (s_puti (i := 60) (by decide +kernel) rfl tin_M (by decide) (tc tw_766) tM tM_ok nM rfl (by decide +kernel)) (
  xval (s_aload_n (f := 0) (by decide +kernel) rfl) (
  xval (s_callV (i := 171) c_M_trouble (by decide +kernel) rfl (xtt_good tw_955) rfl (tc tw_952) (tc tw_954) (tc ts_42) (tc tw_6) ⟨by decide, by decide, by decide +kernel⟩ ⟨by decide, by decide, rfl, rfl, by decide, by decide⟩ x0_e) (
  xval (s_iret (by decide +kernel)) (
  xval_nil))))))
theorem c_M_problem : xMet xCl y_M_problem ws_M_problem rm_M_problem (xRun tb_M_problem 1) := xMet.of (by decide) rfl v_M_problem
def tb_M_apply : xT := [(0, o_aload 0 1), (1, o_aload 0 1), (2, o_callV (xRun tb_M_trouble 5) 5 0 0 0), (5, o_ifn (fun a => a = 0) 12), (8, o_i 0 1), (9, o_goto 13), (12, o_i 1 1), (13, o_puti 5 0), (16, o_aload 0 1), (17, o_getf 5 0), (20, o_if (fun a => a ≤ 0) 25), (23, o_i 0 1), (24, o_iret), (25, o_aload 0 1), (26, o_callV (xRun tb_M_moves 4) 5 0 0 0), (29, o_istore 1 1), (30, o_i 0 1), (31, o_istore 2 1), (32, o_iload 2 1), (33, o_i 8 2), (35, o_ic (fun a b => b ≤ a) 56), (38, o_aload 0 1), (39, o_getf 5 2), (42, o_iload 2 1), (43, o_aload 0 1), (44, o_getf 5 3), (47, o_iload 2 1), (48, o_laload), (49, o_lastore), (50, o_iinc 2 1), (53, o_goto 32), (56, o_i 0 1), (57, o_istore 2 1), (58, o_iload 2 1), (59, o_i 64 2), (61, o_ic (fun a b => b ≤ a) 82), (64, o_aload 0 1), (65, o_getf 5 7), (68, o_iload 2 1), (69, o_aload 0 1), (70, o_getf 5 8), (73, o_iload 2 1), (74, o_laload), (75, o_lastore), (76, o_iinc 2 1), (79, o_goto 58), (82, o_iload 1 1), (83, o_iret)]
abbrev y_M_apply : MethodName := ⟨"NameMoverModel", "apply", "()I"⟩
abbrev rm_M_apply : Room := { frames := 5, cells := 0, slots := 0, locals := 113 }
abbrev ws_M_apply : List Cond := Cond.code y_M_apply prog_11_method_37_code 3 (some .int) :: xtt
set_option maxRecDepth 100000 in
theorem v_M_apply : ∀ q ∈ tb_M_apply, xSd (0, 0) x0 xCl "NameMoverModel" ws_M_apply prog_11_method_37_code 3 (some .int) rm_M_apply q :=
  xval (s_aload_n (f := 0) (by decide +kernel) rfl) (
  xval (s_aload_n (f := 0) (by decide +kernel) rfl) (
  xval (s_callV (i := 171) c_M_trouble (by decide +kernel) rfl (xtt_good tw_955) rfl (tc tw_952) (tc tw_954) (tc ts_42) (tc tw_6) ⟨by decide, by decide, by decide +kernel⟩ ⟨by decide, by decide, rfl, rfl, by decide, by decide⟩ x0_e) (
  xval (s_ifne (z := 7) (by decide +kernel) (by decide)) (
  xval (s_iconst (z := 0) (by decide +kernel) (by decide)) (
  xval (s_goto (z := 4) (by decide +kernel) (by decide)) (
  xval (s_iconst (z := 1) (by decide +kernel) (by decide)) (
  xval (s_puti (i := 60) (by decide +kernel) rfl tin_M (by decide) (tc tw_766) tM tM_ok nM rfl (by decide +kernel)) (
  xval (s_aload_n (f := 0) (by decide +kernel) rfl) (
  xval (s_getf (i := 60) (by decide +kernel) rfl tin_M (by decide) (tc tw_766)) (
  xval (s_ifle (z := 5) (by decide +kernel) (by decide)) (
  xval (s_iconst (z := 0) (by decide +kernel) (by decide)) (
  xval (s_iret (by decide +kernel)) (
  xval (s_aload_n (f := 0) (by decide +kernel) rfl) (
  xval (s_callV (i := 113) c_M_moves (by decide +kernel) rfl (xtt_good tw_870) rfl (tc tw_867) (tc tw_869) (tc ts_29) (tc tw_6) ⟨by decide, by decide, by decide +kernel⟩ ⟨by decide, by decide, rfl, rfl, by decide, by decide⟩ x0_e) (
  xval (s_istore_n (f := 1) (by decide +kernel) rfl (by decide)) (
  xval (s_iconst (z := 0) (by decide +kernel) (by decide)) (
  xval (s_istore_n (f := 2) (by decide +kernel) rfl (by decide)) (
  xval (s_iload_n (f := 2) (by decide +kernel) rfl) (
  xval (s_bipush (z := 8) (by decide +kernel) (by decide)) (
  xval (s_icge (z := 21) (by decide +kernel) (by decide)) (
  xval (s_aload_n (f := 0) (by decide +kernel) rfl) (
  xval (s_getf (i := 7) (by decide +kernel) rfl tin_M (by decide) (tc tw_768)) (
  xval (s_iload_n (f := 2) (by decide +kernel) rfl) (
  xval (s_aload_n (f := 0) (by decide +kernel) rfl) (
  xval (s_getf (i := 13) (by decide +kernel) rfl tin_M (by decide) (tc tw_769)) (
  xval (s_iload_n (f := 2) (by decide +kernel) rfl) (
  xval (s_laload (by decide +kernel)) (
  xval (s_lastore (by decide +kernel)) (
  xval (s_iinc (z := 1) (by decide +kernel) (by decide) (by decide)) (
  xval (s_goto (z := (-21)) (by decide +kernel) (by decide)) (
  xval (s_iconst (z := 0) (by decide +kernel) (by decide)) (
  xval (s_istore_n (f := 2) (by decide +kernel) rfl (by decide)) (
  xval (s_iload_n (f := 2) (by decide +kernel) rfl) (
  xval (s_bipush (z := 64) (by decide +kernel) (by decide)) (
  xval (s_icge (z := 21) (by decide +kernel) (by decide)) (
  xval (s_aload_n (f := 0) (by decide +kernel) rfl) (
  xval (s_getf (i := 27) (by decide +kernel) rfl tin_M (by decide) (tc tw_773)) (
  xval (s_iload_n (f := 2) (by decide +kernel) rfl) (
  xval (s_aload_n (f := 0) (by decide +kernel) rfl) (
  xval (s_getf (i := 30) (by decide +kernel) rfl tin_M (by decide) (tc tw_774)) (
  xval (s_iload_n (f := 2) (by decide +kernel) rfl) (
  xval (s_laload (by decide +kernel)) (
  xval (s_lastore (by decide +kernel)) (
  xval (s_iinc (z := 1) (by decide +kernel) (by decide) (by decide)) (
  xval (s_goto (z := (-21)) (by decide +kernel) (by decide)) (
  xval (s_iload_n (f := 1) (by decide +kernel) rfl) (
  xval (s_iret (by decide +kernel)) (
  xval_nil))))))))))))))))))))))))))))))))))))))))))))))))
theorem c_M_apply : xMet xCl y_M_apply ws_M_apply rm_M_apply (xRun tb_M_apply 3) := xMet.of (by decide) rfl v_M_apply
def tb_M_cancel : xT := [(0, o_aload 0 1), (1, o_i 0 1), (2, o_puti 5 0), (5, o_aload 0 1), (6, o_callV (xRun tb_M_moves 4) 5 0 0 0), (9, o_istore 1 1), (10, o_i 0 1), (11, o_istore 2 1), (12, o_iload 2 1), (13, o_i 8 2), (15, o_ic (fun a b => b ≤ a) 36), (18, o_aload 0 1), (19, o_getf 5 3), (22, o_iload 2 1), (23, o_aload 0 1), (24, o_getf 5 2), (27, o_iload 2 1), (28, o_laload), (29, o_lastore), (30, o_iinc 2 1), (33, o_goto 12), (36, o_i 0 1), (37, o_istore 2 1), (38, o_iload 2 1), (39, o_i 64 2), (41, o_ic (fun a b => b ≤ a) 62), (44, o_aload 0 1), (45, o_getf 5 8), (48, o_iload 2 1), (49, o_aload 0 1), (50, o_getf 5 7), (53, o_iload 2 1), (54, o_laload), (55, o_lastore), (56, o_iinc 2 1), (59, o_goto 38), (62, o_iload 1 1), (63, o_iret)]
abbrev y_M_cancel : MethodName := ⟨"NameMoverModel", "cancel", "()I"⟩
abbrev rm_M_cancel : Room := { frames := 1, cells := 0, slots := 0, locals := 23 }
abbrev ws_M_cancel : List Cond := Cond.code y_M_cancel prog_11_method_38_code 3 (some .int) :: xtt
set_option maxRecDepth 100000 in
theorem v_M_cancel : ∀ q ∈ tb_M_cancel, xSd (0, 0) x0 xCl "NameMoverModel" ws_M_cancel prog_11_method_38_code 3 (some .int) rm_M_cancel q :=
  xval (s_aload_n (f := 0) (by decide +kernel) rfl) (
  xval (s_iconst (z := 0) (by decide +kernel) (by decide)) (
  xval (s_puti (i := 60) (by decide +kernel) rfl tin_M (by decide) (tc tw_766) tM tM_ok nM rfl (by decide +kernel)) (
  xval (s_aload_n (f := 0) (by decide +kernel) rfl) (
  xval (s_callV (i := 113) c_M_moves (by decide +kernel) rfl (xtt_good tw_870) rfl (tc tw_867) (tc tw_869) (tc ts_29) (tc tw_6) ⟨by decide, by decide, by decide +kernel⟩ ⟨by decide, by decide, rfl, rfl, by decide, by decide⟩ x0_e) (
  xval (s_istore_n (f := 1) (by decide +kernel) rfl (by decide)) (
  xval (s_iconst (z := 0) (by decide +kernel) (by decide)) (
  xval (s_istore_n (f := 2) (by decide +kernel) rfl (by decide)) (
  xval (s_iload_n (f := 2) (by decide +kernel) rfl) (
  xval (s_bipush (z := 8) (by decide +kernel) (by decide)) (
  xval (s_icge (z := 21) (by decide +kernel) (by decide)) (
  xval (s_aload_n (f := 0) (by decide +kernel) rfl) (
  xval (s_getf (i := 13) (by decide +kernel) rfl tin_M (by decide) (tc tw_769)) (
  xval (s_iload_n (f := 2) (by decide +kernel) rfl) (
  xval (s_aload_n (f := 0) (by decide +kernel) rfl) (
  xval (s_getf (i := 7) (by decide +kernel) rfl tin_M (by decide) (tc tw_768)) (
  xval (s_iload_n (f := 2) (by decide +kernel) rfl) (
  xval (s_laload (by decide +kernel)) (
  xval (s_lastore (by decide +kernel)) (
  xval (s_iinc (z := 1) (by decide +kernel) (by decide) (by decide)) (
  xval (s_goto (z := (-21)) (by decide +kernel) (by decide)) (
  xval (s_iconst (z := 0) (by decide +kernel) (by decide)) (
  xval (s_istore_n (f := 2) (by decide +kernel) rfl (by decide)) (
  xval (s_iload_n (f := 2) (by decide +kernel) rfl) (
  xval (s_bipush (z := 64) (by decide +kernel) (by decide)) (
  xval (s_icge (z := 21) (by decide +kernel) (by decide)) (
  xval (s_aload_n (f := 0) (by decide +kernel) rfl) (
  xval (s_getf (i := 30) (by decide +kernel) rfl tin_M (by decide) (tc tw_774)) (
  xval (s_iload_n (f := 2) (by decide +kernel) rfl) (
  xval (s_aload_n (f := 0) (by decide +kernel) rfl) (
  xval (s_getf (i := 27) (by decide +kernel) rfl tin_M (by decide) (tc tw_773)) (
  xval (s_iload_n (f := 2) (by decide +kernel) rfl) (
  xval (s_laload (by decide +kernel)) (
  xval (s_lastore (by decide +kernel)) (
  xval (s_iinc (z := 1) (by decide +kernel) (by decide) (by decide)) (
  xval (s_goto (z := (-21)) (by decide +kernel) (by decide)) (
  xval (s_iload_n (f := 1) (by decide +kernel) rfl) (
  xval (s_iret (by decide +kernel)) (
  xval_nil))))))))))))))))))))))))))))))))))))))
theorem c_M_cancel : xMet xCl y_M_cancel ws_M_cancel rm_M_cancel (xRun tb_M_cancel 3) := xMet.of (by decide) rfl v_M_cancel
def tb_M_classes : xT := [(0, o_aload 0 1), (1, o_i 0 1), (2, o_puti 5 0), (5, o_aload 0 1), (6, o_getf 5 1), (9, o_iret)]
abbrev y_M_classes : MethodName := ⟨"NameMoverModel", "classes", "()I"⟩
abbrev rm_M_classes : Room := { frames := 0, cells := 0, slots := 0, locals := 0 }
abbrev ws_M_classes : List Cond := Cond.code y_M_classes prog_11_method_39_code 1 (some .int) :: xtt
set_option maxRecDepth 100000 in
theorem v_M_classes : ∀ q ∈ tb_M_classes, xSd (0, 0) x0 xCl "NameMoverModel" ws_M_classes prog_11_method_39_code 1 (some .int) rm_M_classes q :=
  xval (s_aload_n (f := 0) (by decide +kernel) rfl) (
  xval (s_iconst (z := 0) (by decide +kernel) (by decide)) (
  xval (s_puti (i := 60) (by decide +kernel) rfl tin_M (by decide) (tc tw_766) tM tM_ok nM rfl (by decide +kernel)) (
  xval (s_aload_n (f := 0) (by decide +kernel) rfl) (
  xval (s_getf (i := 99) (by decide +kernel) rfl tin_M (by decide) (tc tw_767)) (
  xval (s_iret (by decide +kernel)) (
  xval_nil))))))
theorem c_M_classes : xMet xCl y_M_classes ws_M_classes rm_M_classes (xRun tb_M_classes 1) := xMet.of (by decide) rfl v_M_classes
def tb_M_className : xT := [(0, o_aload 0 1), (1, o_aload 0 1), (2, o_iload 1 1), (3, o_callV (xRun tb_M_isClass 2) 5 1 0 0), (6, o_if (fun a => a = 0) 13), (9, o_i 0 1), (10, o_goto 14), (13, o_i 1 1), (14, o_puti 5 0), (17, o_aload 0 1), (18, o_getf 5 0), (21, o_if (fun a => a ≤ 0) 28), (24, o_l 0 1), (25, o_goto 47), (28, o_iload 2 1), (29, o_if (fun a => a = 0) 41), (32, o_aload 0 1), (33, o_getf 5 3), (36, o_iload 1 1), (37, o_laload), (38, o_goto 47), (41, o_aload 0 1), (42, o_getf 5 2), (45, o_iload 1 1), (46, o_laload), (47, o_lret)]
abbrev y_M_className : MethodName := ⟨"NameMoverModel", "className", "(IZ)J"⟩
abbrev rm_M_className : Room := { frames := 1, cells := 0, slots := 0, locals := 21 }
abbrev ws_M_className : List Cond := Cond.code y_M_className prog_11_method_40_code 3 (some .long) :: xtt
set_option maxRecDepth 100000 in
theorem v_M_className : ∀ q ∈ tb_M_className, xSd (0, 0) x0 xCl "NameMoverModel" ws_M_className prog_11_method_40_code 3 (some .long) rm_M_className q :=
  xval (s_aload_n (f := 0) (by decide +kernel) rfl) (
  xval (s_aload_n (f := 0) (by decide +kernel) rfl) (
  xval (s_iload_n (f := 1) (by decide +kernel) rfl) (
  xval (s_callV (i := 102) c_M_isClass (by decide +kernel) rfl (xtt_good tw_866) rfl (tc tw_863) (tc tw_865) (tc ts_28) (tc tw_6) ⟨by decide, by decide, by decide +kernel⟩ ⟨by decide, by decide, rfl, rfl, by decide, by decide⟩ x0_e) (
  xval (s_ifeq (z := 7) (by decide +kernel) (by decide)) (
  xval (s_iconst (z := 0) (by decide +kernel) (by decide)) (
  xval (s_goto (z := 4) (by decide +kernel) (by decide)) (
  xval (s_iconst (z := 1) (by decide +kernel) (by decide)) (
  xval (s_puti (i := 60) (by decide +kernel) rfl tin_M (by decide) (tc tw_766) tM tM_ok nM rfl (by decide +kernel)) (
  xval (s_aload_n (f := 0) (by decide +kernel) rfl) (
  xval (s_getf (i := 60) (by decide +kernel) rfl tin_M (by decide) (tc tw_766)) (
  xval (s_ifle (z := 7) (by decide +kernel) (by decide)) (
  xval (s_lconst (z := 0) (by decide +kernel) (by decide)) (
  xval (s_goto (z := 22) (by decide +kernel) (by decide)) (
  xval (s_iload_n (f := 2) (by decide +kernel) rfl) (
  xval (s_ifeq (z := 12) (by decide +kernel) (by decide)) (
  xval (s_aload_n (f := 0) (by decide +kernel) rfl) (
  xval (s_getf (i := 13) (by decide +kernel) rfl tin_M (by decide) (tc tw_769)) (
  xval (s_iload_n (f := 1) (by decide +kernel) rfl) (
  xval (s_laload (by decide +kernel)) (
  xval (s_goto (z := 9) (by decide +kernel) (by decide)) (
  xval (s_aload_n (f := 0) (by decide +kernel) rfl) (
  xval (s_getf (i := 7) (by decide +kernel) rfl tin_M (by decide) (tc tw_768)) (
  xval (s_iload_n (f := 1) (by decide +kernel) rfl) (
  xval (s_laload (by decide +kernel)) (
  xval (s_lret (by decide +kernel)) (
  xval_nil))))))))))))))))))))))))))
theorem c_M_className : xMet xCl y_M_className ws_M_className rm_M_className (xRun tb_M_className 3) := xMet.of (by decide) rfl v_M_className
def tb_M_memberName : xT := [(0, o_aload 0 1), (1, o_aload 0 1), (2, o_iload 1 1), (3, o_iload 2 1), (4, o_callV (xRun tb_M_isMember 3) 5 2 0 0), (7, o_if (fun a => a = 0) 14), (10, o_i 0 1), (11, o_goto 15), (14, o_i 1 1), (15, o_puti 5 0), (18, o_aload 0 1), (19, o_getf 5 0), (22, o_if (fun a => a ≤ 0) 29), (25, o_l 0 1), (26, o_goto 58), (29, o_iload 3 1), (30, o_if (fun a => a = 0) 47), (33, o_aload 0 1), (34, o_getf 5 8), (37, o_i 8 2), (39, o_iload 1 1), (40, o_ii (fun a b => a * b)), (41, o_iload 2 1), (42, o_ii (fun a b => a + b)), (43, o_laload), (44, o_goto 58), (47, o_aload 0 1), (48, o_getf 5 7), (51, o_i 8 2), (53, o_iload 1 1), (54, o_ii (fun a b => a * b)), (55, o_iload 2 1), (56, o_ii (fun a b => a + b)), (57, o_laload), (58, o_lret)]
abbrev y_M_memberName : MethodName := ⟨"NameMoverModel", "memberName", "(IIZ)J"⟩
abbrev rm_M_memberName : Room := { frames := 2, cells := 0, slots := 0, locals := 43 }
abbrev ws_M_memberName : List Cond := Cond.code y_M_memberName prog_11_method_41_code 4 (some .long) :: xtt
set_option maxRecDepth 100000 in
theorem v_M_memberName : ∀ q ∈ tb_M_memberName, xSd (0, 0) x0 xCl "NameMoverModel" ws_M_memberName prog_11_method_41_code 4 (some .long) rm_M_memberName q :=
  xval (s_aload_n (f := 0) (by decide +kernel) rfl) (
  xval (s_aload_n (f := 0) (by decide +kernel) rfl) (
  xval (s_iload_n (f := 1) (by decide +kernel) rfl) (
  xval (s_iload_n (f := 2) (by decide +kernel) rfl) (
  xval (s_callV (i := 154) c_M_isMember (by decide +kernel) rfl (xtt_good tw_927) rfl (tc tw_924) (tc tw_926) (tc ts_36) (tc tw_6) ⟨by decide, by decide, by decide +kernel⟩ ⟨by decide, by decide, rfl, rfl, by decide, by decide⟩ x0_e) (
  xval (s_ifeq (z := 7) (by decide +kernel) (by decide)) (
  xval (s_iconst (z := 0) (by decide +kernel) (by decide)) (
  xval (s_goto (z := 4) (by decide +kernel) (by decide)) (
  xval (s_iconst (z := 1) (by decide +kernel) (by decide)) (
  xval (s_puti (i := 60) (by decide +kernel) rfl tin_M (by decide) (tc tw_766) tM tM_ok nM rfl (by decide +kernel)) (
  xval (s_aload_n (f := 0) (by decide +kernel) rfl) (
  xval (s_getf (i := 60) (by decide +kernel) rfl tin_M (by decide) (tc tw_766)) (
  xval (s_ifle (z := 7) (by decide +kernel) (by decide)) (
  xval (s_lconst (z := 0) (by decide +kernel) (by decide)) (
  xval (s_goto (z := 32) (by decide +kernel) (by decide)) (
  xval (s_iload_n (f := 3) (by decide +kernel) rfl) (
  xval (s_ifeq (z := 17) (by decide +kernel) (by decide)) (
  xval (s_aload_n (f := 0) (by decide +kernel) rfl) (
  xval (s_getf (i := 30) (by decide +kernel) rfl tin_M (by decide) (tc tw_774)) (
  xval (s_bipush (z := 8) (by decide +kernel) (by decide)) (
  xval (s_iload_n (f := 1) (by decide +kernel) rfl) (
  xval (s_imul (by decide +kernel)) (
  xval (s_iload_n (f := 2) (by decide +kernel) rfl) (
  xval (s_iadd (by decide +kernel)) (
  xval (s_laload (by decide +kernel)) (
  xval (s_goto (z := 14) (by decide +kernel) (by decide)) (
  xval (s_aload_n (f := 0) (by decide +kernel) rfl) (
  xval (s_getf (i := 27) (by decide +kernel) rfl tin_M (by decide) (tc tw_773)) (
  xval (s_bipush (z := 8) (by decide +kernel) (by decide)) (
  xval (s_iload_n (f := 1) (by decide +kernel) rfl) (
  xval (s_imul (by decide +kernel)) (
  xval (s_iload_n (f := 2) (by decide +kernel) rfl) (
  xval (s_iadd (by decide +kernel)) (
  xval (s_laload (by decide +kernel)) (
  xval (s_lret (by decide +kernel)) (
  xval_nil)))))))))))))))))))))))))))))))))))
theorem c_M_memberName : xMet xCl y_M_memberName ws_M_memberName rm_M_memberName (xRun tb_M_memberName 4) := xMet.of (by decide) rfl v_M_memberName
def tb_M_find : xT := [(0, o_aload 0 1), (1, o_aload 0 1), (2, o_iload 1 1), (3, o_callV (xRun tb_M_isClass 2) 5 1 0 0), (6, o_if (fun a => a = 0) 13), (9, o_i 2 1), (10, o_goto 14), (13, o_i 1 1), (14, o_puti 5 0), (17, o_aload 0 1), (18, o_getf 5 0), (21, o_i 2 1), (22, o_icn (fun a b => a = b) 29), (25, o_iload 1 1), (26, o_goto 30), (29, o_i (-1) 1), (30, o_istore 6 2), (32, o_iload 6 2), (34, o_if (fun a => a < 0) 79), (37, o_aload 0 1), (38, o_iload 6 2), (40, o_lload 2 1), (41, o_lload 4 2), (43, o_callV (xRun tb_M_has 8) 5 3 0 0), (46, o_istore 7 2), (48, o_iload 7 2), (50, o_if (fun a => a < 0) 67), (53, o_aload 0 1), (54, o_i 0 1), (55, o_puti 5 0), (58, o_i 8 2), (60, o_iload 6 2), (62, o_ii (fun a b => a * b)), (63, o_iload 7 2), (65, o_ii (fun a b => a + b)), (66, o_iret), (67, o_aload 0 1), (68, o_getf 5 4), (71, o_iload 6 2), (73, o_iaload), (74, o_istore 6 2), (76, o_goto 32), (79, o_i 0 1), (80, o_iret)]
abbrev y_M_find : MethodName := ⟨"NameMoverModel", "find", "(IJJ)I"⟩
abbrev rm_M_find : Room := { frames := 1, cells := 0, slots := 0, locals := 27 }
abbrev ws_M_find : List Cond := Cond.code y_M_find prog_11_method_42_code 8 (some .int) :: xtt
set_option maxRecDepth 100000 in
theorem v_M_find : ∀ q ∈ tb_M_find, xSd (0, 0) x0 xCl "NameMoverModel" ws_M_find prog_11_method_42_code 8 (some .int) rm_M_find q :=
  xval (s_aload_n (f := 0) (by decide +kernel) rfl) (
  xval (s_aload_n (f := 0) (by decide +kernel) rfl) (
  xval (s_iload_n (f := 1) (by decide +kernel) rfl) (
  xval (s_callV (i := 102) c_M_isClass (by decide +kernel) rfl (xtt_good tw_866) rfl (tc tw_863) (tc tw_865) (tc ts_28) (tc tw_6) ⟨by decide, by decide, by decide +kernel⟩ ⟨by decide, by decide, rfl, rfl, by decide, by decide⟩ x0_e) (
  xval (s_ifeq (z := 7) (by decide +kernel) (by decide)) (
  xval (s_iconst (z := 2) (by decide +kernel) (by decide)) (
  xval (s_goto (z := 4) (by decide +kernel) (by decide)) (
  xval (s_iconst (z := 1) (by decide +kernel) (by decide)) (
  xval (s_puti (i := 60) (by decide +kernel) rfl tin_M (by decide) (tc tw_766) tM tM_ok nM rfl (by decide +kernel)) (
  xval (s_aload_n (f := 0) (by decide +kernel) rfl) (
  xval (s_getf (i := 60) (by decide +kernel) rfl tin_M (by decide) (tc tw_766)) (
  xval (s_iconst (z := 2) (by decide +kernel) (by decide)) (
  xval (s_icne (z := 7) (by decide +kernel) (by decide)) (
  xval (s_iload_n (f := 1) (by decide +kernel) rfl) (
  xval (s_goto (z := 4) (by decide +kernel) (by decide)) (
  xval (s_iconst (z := (-1)) (by decide +kernel) (by decide)) (
  xval (s_istore (by decide +kernel) (by decide)) (
  xval (s_iload (by decide +kernel)) (
  xval (s_iflt (z := 45) (by decide +kernel) (by decide)) (
  xval (s_aload_n (f := 0) (by decide +kernel) rfl) (
  xval (s_iload (by decide +kernel)) (
  xval (s_lload_n (f := 2) (by decide +kernel) rfl) (
  xval (s_lload (by decide +kernel)) (
  xval (s_callV (i := 127) c_M_has (by decide +kernel) rfl (xtt_good tw_894) rfl (tc tw_891) (tc tw_893) (tc ts_34) (tc tw_6) ⟨by decide, by decide, by decide +kernel⟩ ⟨by decide, by decide, rfl, rfl, by decide, by decide⟩ x0_e) (
  xval (s_istore (by decide +kernel) (by decide)) (
  xval (s_iload (by decide +kernel)) (
  xval (s_iflt (z := 17) (by decide +kernel) (by decide)) (
  xval (s_aload_n (f := 0) (by decide +kernel) rfl) (
  xval (s_iconst (z := 0) (by decide +kernel) (by decide)) (
  xval (s_puti (i := 60) (by decide +kernel) rfl tin_M (by decide) (tc tw_766) tM tM_ok nM rfl (by decide +kernel)) (
  xval (s_bipush (z := 8) (by decide +kernel) (by decide)) (
  xval (s_iload (by decide +kernel)) (
  xval (s_imul (by decide +kernel)) (
  xval (s_iload (by decide +kernel)) (
  xval (s_iadd (by decide +kernel)) (
  xval (s_iret (by decide +kernel)) (
  xval (s_aload_n (f := 0) (by decide +kernel) rfl) (
  xval (s_getf (i := 16) (by decide +kernel) rfl tin_M (by decide) (tc tw_770)) (
  xval (s_iload (by decide +kernel)) (
  xval (s_iaload (by decide +kernel)) (
  xval (s_istore (by decide +kernel) (by decide)) (
  xval (s_goto (z := (-44)) (by decide +kernel) (by decide)) (
  xval (s_iconst (z := 0) (by decide +kernel) (by decide)) (
  xval (s_iret (by decide +kernel)) (
  xval_nil))))))))))))))))))))))))))))))))))))))))))))
theorem c_M_find : xMet xCl y_M_find ws_M_find rm_M_find (xRun tb_M_find 8) := xMet.of (by decide) rfl v_M_find
def tb_M_pooled : xT := [(0, o_i 0 1), (1, o_istore 1 1), (2, o_iload 1 1), (3, o_aload 0 1), (4, o_getf 5 16), (7, o_ic (fun a b => b ≤ a) 89), (10, o_aload 0 1), (11, o_getf 5 18), (14, o_iload 1 1), (15, o_iaload), (16, o_aload 0 1), (17, o_getf 5 20), (20, o_icn (fun a b => a = b) 27), (23, o_i 1 1), (24, o_goto 28), (27, o_i 0 1), (28, o_istore 2 1), (29, o_i 0 1), (30, o_istore 3 1), (31, o_iload 3 1), (32, o_aload 0 1), (33, o_getf 5 20), (36, o_ic (fun a b => b ≤ a) 75), (39, o_iload 2 1), (40, o_if (fun a => a = 0) 75), (43, o_aload 0 1), (44, o_getf 5 17), (47, o_i 64 2), (49, o_iload 1 1), (50, o_ii (fun a b => a * b)), (51, o_iload 3 1), (52, o_ii (fun a b => a + b)), (53, o_iaload), (54, o_aload 0 1), (55, o_getf 5 19), (58, o_iload 3 1), (59, o_iaload), (60, o_icn (fun a b => a = b) 67), (63, o_i 1 1), (64, o_goto 68), (67, o_i 0 1), (68, o_istore 2 1), (69, o_iinc 3 1), (72, o_goto 31), (75, o_iload 2 1), (76, o_if (fun a => a = 0) 83), (79, o_iload 1 1), (80, o_i 1 1), (81, o_ii (fun a b => a + b)), (82, o_iret), (83, o_iinc 1 1), (86, o_goto 2), (89, o_i 0 1), (90, o_istore 1 1), (91, o_iload 1 1), (92, o_aload 0 1), (93, o_getf 5 20), (96, o_ic (fun a b => b ≤ a) 125), (99, o_aload 0 1), (100, o_getf 5 17), (103, o_i 64 2), (105, o_aload 0 1), (106, o_getf 5 16), (109, o_ii (fun a b => a * b)), (110, o_iload 1 1), (111, o_ii (fun a b => a + b)), (112, o_aload 0 1), (113, o_getf 5 19), (116, o_iload 1 1), (117, o_iaload), (118, o_iastore), (119, o_iinc 1 1), (122, o_goto 91), (125, o_aload 0 1), (126, o_getf 5 18), (129, o_aload 0 1), (130, o_getf 5 16), (133, o_aload 0 1), (134, o_getf 5 20), (137, o_iastore), (138, o_aload 0 1), (139, o_dup), (140, o_getf 5 16), (143, o_i 1 1), (144, o_ii (fun a b => a + b)), (145, o_puti 5 16), (148, o_aload 0 1), (149, o_getf 5 16), (152, o_iret)]
abbrev y_M_pooled : MethodName := ⟨"NameMoverModel", "pooled", "()I"⟩
abbrev rm_M_pooled : Room := { frames := 0, cells := 0, slots := 0, locals := 0 }
abbrev ws_M_pooled : List Cond := Cond.code y_M_pooled prog_11_method_43_code 4 (some .int) :: xtt
set_option maxRecDepth 100000 in
theorem v_M_pooled : ∀ q ∈ tb_M_pooled, xSd (0, 0) x0 xCl "NameMoverModel" ws_M_pooled prog_11_method_43_code 4 (some .int) rm_M_pooled q :=
  xval (s_iconst (z := 0) (by decide +kernel) (by decide)) (
  xval (s_istore_n (f := 1) (by decide +kernel) rfl (by decide)) (
  xval (s_iload_n (f := 1) (by decide +kernel) rfl) (
  xval (s_aload_n (f := 0) (by decide +kernel) rfl) (
  xval (s_getf (i := 174) (by decide +kernel) rfl tin_M (by decide) (tc tw_782)) (
  xval (s_icge (z := 82) (by decide +kernel) (by decide)) (
  xval (s_aload_n (f := 0) (by decide +kernel) rfl) (
  xval (s_getf (i := 51) (by decide +kernel) rfl tin_M (by decide) (tc tw_784)) (
  xval (s_iload_n (f := 1) (by decide +kernel) rfl) (
  xval (s_iaload (by decide +kernel)) (
  xval (s_aload_n (f := 0) (by decide +kernel) rfl) (
  xval (s_getf (i := 177) (by decide +kernel) rfl tin_M (by decide) (tc tw_786)) (
  xval (s_icne (z := 7) (by decide +kernel) (by decide)) (
  xval (s_iconst (z := 1) (by decide +kernel) (by decide)) (
  xval (s_goto (z := 4) (by decide +kernel) (by decide)) (
  xval (s_iconst (z := 0) (by decide +kernel) (by decide)) (
  xval (s_istore_n (f := 2) (by decide +kernel) rfl (by decide)) (
  xval (s_iconst (z := 0) (by decide +kernel) (by decide)) (
  xval (s_istore_n (f := 3) (by decide +kernel) rfl (by decide)) (
  xval (s_iload_n (f := 3) (by decide +kernel) rfl) (
  xval (s_aload_n (f := 0) (by decide +kernel) rfl) (
  xval (s_getf (i := 177) (by decide +kernel) rfl tin_M (by decide) (tc tw_786)) (
  xval (s_icge (z := 39) (by decide +kernel) (by decide)) (
  xval (s_iload_n (f := 2) (by decide +kernel) rfl) (
  xval (s_ifeq (z := 35) (by decide +kernel) (by decide)) (
  xval (s_aload_n (f := 0) (by decide +kernel) rfl) (
  xval (s_getf (i := 48) (by decide +kernel) rfl tin_M (by decide) (tc tw_783)) (
  xval (s_bipush (z := 64) (by decide +kernel) (by decide)) (
  xval (s_iload_n (f := 1) (by decide +kernel) rfl) (
  xval (s_imul (by decide +kernel)) (
  xval (s_iload_n (f := 3) (by decide +kernel) rfl) (
  xval (s_iadd (by decide +kernel)) (
  xval (s_iaload (by decide +kernel)) (
  xval (s_aload_n (f := 0) (by decide +kernel) rfl) (
  xval (s_getf (i := 54) (by decide +kernel) rfl tin_M (by decide) (tc tw_785)) (
  xval (s_iload_n (f := 3) (by decide +kernel) rfl) (
  xval (s_iaload (by decide +kernel)) (
  xval (s_icne (z := 7) (by decide +kernel) (by decide)) (
  xval (s_iconst (z := 1) (by decide +kernel) (by decide)) (
  xval (s_goto (z := 4) (by decide +kernel) (by decide)) (
  xval (s_iconst (z := 0) (by decide +kernel) (by decide)) (
  xval (s_istore_n (f := 2) (by decide +kernel) rfl (by decide)) (
  xval (s_iinc (z := 1) (by decide +kernel) (by decide) (by decide)) (
  xval (s_goto (z := (-41)) (by decide +kernel) (by decide)) (
  xval (s_iload_n (f := 2) (by decide +kernel) rfl) (
  xval (s_ifeq (z := 7) (by decide +kernel) (by decide)) (
  xval (s_iload_n (f := 1) (by decide +kernel) rfl) (
  xval (s_iconst (z := 1) (by decide +kernel) (by decide)) (
  xval (s_iadd (by decide +kernel)) (
  xval (s_iret (by decide +kernel)) (
  xval (s_iinc (z := 1) (by decide +kernel) (by decide) (by decide)) (
  xval (s_goto (z := (-84)) (by decide +kernel) (by decide)) (
  xval (s_iconst (z := 0) (by decide +kernel) (by decide)) (
  xval (s_istore_n (f := 1) (by decide +kernel) rfl (by decide)) (
  xval (s_iload_n (f := 1) (by decide +kernel) rfl) (
  xval (s_aload_n (f := 0) (by decide +kernel) rfl) (
  xval (s_getf (i := 177) (by decide +kernel) rfl tin_M (by decide) (tc tw_786)) (
  xval (s_icge (z := 29) (by decide +kernel) (by decide)) (
  xval (s_aload_n (f := 0) (by decide +kernel) rfl) (
  xval (s_getf (i := 48) (by decide +kernel) rfl tin_M (by decide) (tc tw_783)) (
  xval (s_bipush (z := 64) (by decide +kernel) (by decide)) (
  xval (s_aload_n (f := 0) (by decide +kernel) rfl) (
  xval (s_getf (i := 174) (by decide +kernel) rfl tin_M (by decide) (tc tw_782)) (
  xval (s_imul (by decide +kernel)) (
  xval (s_iload_n (f := 1) (by decide +kernel) rfl) (
  xval (s_iadd (by decide +kernel)) (
  xval (s_aload_n (f := 0) (by decide +kernel) rfl) (
  xval (s_getf (i := 54) (by decide +kernel) rfl tin_M (by decide) (tc tw_785)) (
  xval (s_iload_n (f := 1) (by decide +kernel) rfl) (
  xval (s_iaload (by decide +kernel)) (
  xval (s_iastore (by decide +kernel)) (
  xval (s_iinc (z := 1) (by decide +kernel) (by decide) (by decide)) (
  xval (s_goto (z := (-31)) (by decide +kernel) (by decide)) (
  xval (s_aload_n (f := 0) (by decide +kernel) rfl) (
  xval (s_getf (i := 51) (by decide +kernel) rfl tin_M (by decide) (tc tw_784)) (
  xval (s_aload_n (f := 0) (by decide +kernel) rfl) (
  xval (s_getf (i := 174) (by decide +kernel) rfl tin_M (by decide) (tc tw_782)) (
  xval (s_aload_n (f := 0) (by decide +kernel) rfl) (
  xval (s_getf (i := 177) (by decide +kernel) rfl tin_M (by decide) (tc tw_786)) (
  xval (s_iastore (by decide +kernel)) (
  xval (s_aload_n (f := 0) (by decide +kernel) rfl) (
  xval (s_dup (by decide +kernel)) (
  xval (s_getf (i := 174) (by decide +kernel) rfl tin_M (by decide) (tc tw_782)) (
  xval (s_iconst (z := 1) (by decide +kernel) (by decide)) (
  xval (s_iadd (by decide +kernel)) (
  xval (s_puti (i := 174) (by decide +kernel) rfl tin_M (by decide) (tc tw_782) tM tM_ok nM rfl (by decide +kernel)) (
  xval (s_aload_n (f := 0) (by decide +kernel) rfl) (
  xval (s_getf (i := 174) (by decide +kernel) rfl tin_M (by decide) (tc tw_782)) (
  xval (s_iret (by decide +kernel)) (
  xval_nil)))))))))))))))))))))))))))))))))))))))))))))))))))))))))))))))))))))))))))))))))))))))))
theorem c_M_pooled : xMet xCl y_M_pooled ws_M_pooled rm_M_pooled (xRun tb_M_pooled 4) := xMet.of (by decide) rfl v_M_pooled
def tb_M_spell : xT := [(0, o_lload 1 1), (1, o_call (xRun tb_M_length 3) 1 0 0), (4, o_istore 3 1), (5, o_i 0 1), (6, o_istore 4 2), (8, o_iload 4 2), (10, o_iload 3 1), (11, o_ic (fun a b => b ≤ a) 38), (14, o_aload 0 1), (15, o_getf 5 19), (18, o_aload 0 1), (19, o_getf 5 20), (22, o_iload 4 2), (24, o_ii (fun a b => a + b)), (25, o_lload 1 1), (26, o_iload 4 2), (28, o_call (xRun tb_M_charAt 3) 2 0 0), (31, o_iastore), (32, o_iinc 4 1), (35, o_goto 8), (38, o_aload 0 1), (39, o_dup), (40, o_getf 5 20), (43, o_iload 3 1), (44, o_ii (fun a b => a + b)), (45, o_puti 5 20), (48, o_vret)]
abbrev y_M_spell : MethodName := ⟨"NameMoverModel", "spell", "(J)V"⟩
abbrev rm_M_spell : Room := { frames := 2, cells := 0, slots := 0, locals := 44 }
abbrev ws_M_spell : List Cond := Cond.code y_M_spell prog_11_method_44_code 5 (none) :: xtt
set_option maxRecDepth 100000 in
theorem v_M_spell : ∀ q ∈ tb_M_spell, xSd (0, 0) x0 xCl "NameMoverModel" ws_M_spell prog_11_method_44_code 5 (none) rm_M_spell q :=
  xval (s_lload_n (f := 1) (by decide +kernel) rfl) (
  xval (s_callS (i := 70) c_M_length (by decide +kernel) rfl (xtt_good tw_849) (tc tw_847) (tc tw_848) (tc tw_6) ⟨by decide, by decide, by decide +kernel⟩ ⟨by decide, by decide, rfl, rfl, by decide, by decide⟩ x0_e) (
  xval (s_istore_n (f := 3) (by decide +kernel) rfl (by decide)) (
  xval (s_iconst (z := 0) (by decide +kernel) (by decide)) (
  xval (s_istore (by decide +kernel) (by decide)) (
  xval (s_iload (by decide +kernel)) (
  xval (s_iload_n (f := 3) (by decide +kernel) rfl) (
  xval (s_icge (z := 27) (by decide +kernel) (by decide)) (
  xval (s_aload_n (f := 0) (by decide +kernel) rfl) (
  xval (s_getf (i := 54) (by decide +kernel) rfl tin_M (by decide) (tc tw_785)) (
  xval (s_aload_n (f := 0) (by decide +kernel) rfl) (
  xval (s_getf (i := 177) (by decide +kernel) rfl tin_M (by decide) (tc tw_786)) (
  xval (s_iload (by decide +kernel)) (
  xval (s_iadd (by decide +kernel)) (
  xval (s_lload_n (f := 1) (by decide +kernel) rfl) (
  xval (s_iload (by decide +kernel)) (
  xval (s_callS (i := 66) c_M_charAt (by decide +kernel) rfl (xtt_good tw_852) (tc tw_850) (tc tw_851) (tc tw_6) ⟨by decide, by decide, by decide +kernel⟩ ⟨by decide, by decide, rfl, rfl, by decide, by decide⟩ x0_e) (
  xval (s_iastore (by decide +kernel)) (
  xval (s_iinc (z := 1) (by decide +kernel) (by decide) (by decide)) (
  xval (s_goto (z := (-27)) (by decide +kernel) (by decide)) (
  xval (s_aload_n (f := 0) (by decide +kernel) rfl) (
  xval (s_dup (by decide +kernel)) (
  xval (s_getf (i := 177) (by decide +kernel) rfl tin_M (by decide) (tc tw_786)) (
  xval (s_iload_n (f := 3) (by decide +kernel) rfl) (
  xval (s_iadd (by decide +kernel)) (
  xval (s_puti (i := 177) (by decide +kernel) rfl tin_M (by decide) (tc tw_786) tM tM_ok nM rfl (by decide +kernel)) (
  xval (s_vret (by decide +kernel)) (
  xval_nil)))))))))))))))))))))))))))
theorem c_M_spell : xMet xCl y_M_spell ws_M_spell rm_M_spell (xRun tb_M_spell 5) := xMet.of (by decide) rfl v_M_spell
def tb_M_nameInPool : xT := [(0, o_aload 0 1), (1, o_i 0 1), (2, o_puti 5 20), (5, o_aload 0 1), (6, o_lload 1 1), (7, o_callV (xRun tb_M_spell 5) 5 1 0 0), (10, o_aload 0 1), (11, o_callV (xRun tb_M_pooled 4) 5 0 0 0), (14, o_iret)]
abbrev y_M_nameInPool : MethodName := ⟨"NameMoverModel", "nameInPool", "(J)I"⟩
abbrev rm_M_nameInPool : Room := { frames := 3, cells := 0, slots := 0, locals := 68 }
abbrev ws_M_nameInPool : List Cond := Cond.code y_M_nameInPool prog_11_method_45_code 3 (some .int) :: xtt
set_option maxRecDepth 100000 in
theorem v_M_nameInPool : ∀ q ∈ tb_M_nameInPool, xSd (0, 0) x0 xCl "NameMoverModel" ws_M_nameInPool prog_11_method_45_code 3 (some .int) rm_M_nameInPool q :=
  xval (s_aload_n (f := 0) (by decide +kernel) rfl) (
  xval (s_iconst (z := 0) (by decide +kernel) (by decide)) (
  xval (s_puti (i := 177) (by decide +kernel) rfl tin_M (by decide) (tc tw_786) tM tM_ok nM rfl (by decide +kernel)) (
  xval (s_aload_n (f := 0) (by decide +kernel) rfl) (
  xval (s_lload_n (f := 1) (by decide +kernel) rfl) (
  xval (s_callV (i := 180) c_M_spell (by decide +kernel) rfl (xtt_good tw_1008) rfl (tc tw_1005) (tc tw_1007) (tc ts_48) (tc tw_6) ⟨by decide, by decide, by decide +kernel⟩ ⟨by decide, by decide, rfl, rfl, by decide, by decide⟩ x0_e) (
  xval (s_aload_n (f := 0) (by decide +kernel) rfl) (
  xval (s_callV (i := 184) c_M_pooled (by decide +kernel) rfl (xtt_good tw_1012) rfl (tc tw_1009) (tc tw_1011) (tc ts_49) (tc tw_6) ⟨by decide, by decide, by decide +kernel⟩ ⟨by decide, by decide, rfl, rfl, by decide, by decide⟩ x0_e) (
  xval (s_iret (by decide +kernel)) (
  xval_nil)))))))))
theorem c_M_nameInPool : xMet xCl y_M_nameInPool ws_M_nameInPool rm_M_nameInPool (xRun tb_M_nameInPool 3) := xMet.of (by decide) rfl v_M_nameInPool
def tb_M_descriptorInPool : xT := [(0, o_lload 1 1), (1, o_call (xRun tb_M_length 3) 1 0 0), (4, o_istore 3 1), (5, o_aload 0 1), (6, o_i 0 1), (7, o_puti 5 20), (10, o_i 0 1), (11, o_istore 4 2), (13, o_iload 4 2), (15, o_iload 3 1), (16, o_ic (fun a b => b ≤ a) 111), (19, o_lload 1 1), (20, o_iload 4 2), (22, o_call (xRun tb_M_charAt 3) 2 0 0), (25, o_istore 5 2), (27, o_iload 5 2), (29, o_call (xRun tb_M_isDigit 1) 1 0 0), (32, o_if (fun a => a = 0) 84), (35, o_aload 0 1), (36, o_getf 5 19), (39, o_aload 0 1), (40, o_getf 5 20), (43, o_i 76 2), (45, o_iastore), (46, o_aload 0 1), (47, o_dup), (48, o_getf 5 20), (51, o_i 1 1), (52, o_ii (fun a b => a + b)), (53, o_puti 5 20), (56, o_aload 0 1), (57, o_aload 0 1), (58, o_getf 5 2), (61, o_iload 5 2), (63, o_i 48 2), (65, o_ii (fun a b => a - b)), (66, o_laload), (67, o_callV (xRun tb_M_spell 5) 5 1 0 0), (70, o_aload 0 1), (71, o_getf 5 19), (74, o_aload 0 1), (75, o_getf 5 20), (78, o_i 59 2), (80, o_iastore), (81, o_goto 95), (84, o_aload 0 1), (85, o_getf 5 19), (88, o_aload 0 1), (89, o_getf 5 20), (92, o_iload 5 2), (94, o_iastore), (95, o_aload 0 1), (96, o_dup), (97, o_getf 5 20), (100, o_i 1 1), (101, o_ii (fun a b => a + b)), (102, o_puti 5 20), (105, o_iinc 4 1), (108, o_goto 13), (111, o_aload 0 1), (112, o_callV (xRun tb_M_pooled 4) 5 0 0 0), (115, o_iret)]
abbrev y_M_descriptorInPool : MethodName := ⟨"NameMoverModel", "descriptorInPool", "(J)I"⟩
abbrev rm_M_descriptorInPool : Room := { frames := 3, cells := 0, slots := 0, locals := 68 }
abbrev ws_M_descriptorInPool : List Cond := Cond.code y_M_descriptorInPool prog_11_method_46_code 6 (some .int) :: xtt
set_option maxRecDepth 100000 in
theorem v_M_descriptorInPool : ∀ q ∈ tb_M_descriptorInPool, xSd (0, 0) x0 xCl "NameMoverModel" ws_M_descriptorInPool prog_11_method_46_code 6 (some .int) rm_M_descriptorInPool q :=
  xval (s_lload_n (f := 1) (by decide +kernel) rfl) (
  xval (s_callS (i := 70) c_M_length (by decide +kernel) rfl (xtt_good tw_849) (tc tw_847) (tc tw_848) (tc tw_6) ⟨by decide, by decide, by decide +kernel⟩ ⟨by decide, by decide, rfl, rfl, by decide, by decide⟩ x0_e) (
  xval (s_istore_n (f := 3) (by decide +kernel) rfl (by decide)) (
  xval (s_aload_n (f := 0) (by decide +kernel) rfl) (
  xval (s_iconst (z := 0) (by decide +kernel) (by decide)) (
  xval (s_puti (i := 177) (by decide +kernel) rfl tin_M (by decide) (tc tw_786) tM tM_ok nM rfl (by decide +kernel)) (
  xval (s_iconst (z := 0) (by decide +kernel) (by decide)) (
  xval (s_istore (by decide +kernel) (by decide)) (
  xval (s_iload (by decide +kernel)) (
  xval (s_iload_n (f := 3) (by decide +kernel) rfl) (
  xval (s_icge (z := 95) (by decide +kernel) (by decide)) (
  xval (s_lload_n (f := 1) (by decide +kernel) rfl) (
  xval (s_iload (by decide +kernel)) (
  xval (s_callS (i := 66) c_M_charAt (by decide +kernel) rfl (xtt_good tw_852) (tc tw_850) (tc tw_851) (tc tw_6) ⟨by decide, by decide, by decide +kernel⟩ ⟨by decide, by decide, rfl, rfl, by decide, by decide⟩ x0_e) (
  xval (s_istore (by decide +kernel) (by decide)) (
  xval (s_iload (by decide +kernel)) (
  xval (s_callS (i := 82) c_M_isDigit (by decide +kernel) rfl (xtt_good tw_862) (tc tw_860) (tc tw_861) (tc tw_6) ⟨by decide, by decide, by decide +kernel⟩ ⟨by decide, by decide, rfl, rfl, by decide, by decide⟩ x0_e) (
  xval (s_ifeq (z := 52) (by decide +kernel) (by decide)) (
  xval (s_aload_n (f := 0) (by decide +kernel) rfl) (
  xval (s_getf (i := 54) (by decide +kernel) rfl tin_M (by decide) (tc tw_785)) (
  xval (s_aload_n (f := 0) (by decide +kernel) rfl) (
  xval (s_getf (i := 177) (by decide +kernel) rfl tin_M (by decide) (tc tw_786)) (
  xval (s_bipush (z := 76) (by decide +kernel) (by decide)) (
  xval (s_iastore (by decide +kernel)) (
  xval (s_aload_n (f := 0) (by decide +kernel) rfl) (
  xval (s_dup (by decide +kernel)) (
  xval (s_getf (i := 177) (by decide +kernel) rfl tin_M (by decide) (tc tw_786)) (
  xval (s_iconst (z := 1) (by decide +kernel) (by decide)) (
  xval (s_iadd (by decide +kernel)) (
  xval (s_puti (i := 177) (by decide +kernel) rfl tin_M (by decide) (tc tw_786) tM tM_ok nM rfl (by decide +kernel)) (
  xval (s_aload_n (f := 0) (by decide +kernel) rfl) (
  xval (s_aload_n (f := 0) (by decide +kernel) rfl) (
  xval (s_getf (i := 7) (by decide +kernel) rfl tin_M (by decide) (tc tw_768)) (
  xval (s_iload (by decide +kernel)) (
  xval (s_bipush (z := 48) (by decide +kernel) (by decide)) (
  xval (s_isub (by decide +kernel)) (
  xval (s_laload (by decide +kernel)) (
  xval (s_callV (i := 180) c_M_spell (by decide +kernel) rfl (xtt_good tw_1008) rfl (tc tw_1005) (tc tw_1007) (tc ts_48) (tc tw_6) ⟨by decide, by decide, by decide +kernel⟩ ⟨by decide, by decide, rfl, rfl, by decide, by decide⟩ x0_e) (
  xval (s_aload_n (f := 0) (by decide +kernel) rfl) (
  xval (s_getf (i := 54) (by decide +kernel) rfl tin_M (by decide) (tc tw_785)) (
  xval (s_aload_n (f := 0) (by decide +kernel) rfl) (
  xval (s_getf (i := 177) (by decide +kernel) rfl tin_M (by decide) (tc tw_786)) (
  xval (s_bipush (z := 59) (by decide +kernel) (by decide)) (
  xval (s_iastore (by decide +kernel)) (
  xval (s_goto (z := 14) (by decide +kernel) (by decide)) (
  xval (s_aload_n (f := 0) (by decide +kernel) rfl) (
  xval (s_getf (i := 54) (by decide +kernel) rfl tin_M (by decide) (tc tw_785)) (
  xval (s_aload_n (f := 0) (by decide +kernel) rfl) (
  xval (s_getf (i := 177) (by decide +kernel) rfl tin_M (by decide) (tc tw_786)) (
  xval (s_iload (by decide +kernel)) (
  xval (s_iastore (by decide +kernel)) (
  xval (s_aload_n (f := 0) (by decide +kernel) rfl) (
  xval (s_dup (by decide +kernel)) (
  xval (s_getf (i := 177) (by decide +kernel) rfl tin_M (by decide) (tc tw_786)) (
  xval (s_iconst (z := 1) (by decide +kernel) (by decide)) (
  xval (s_iadd (by decide +kernel)) (
  xval (s_puti (i := 177) (by decide +kernel) rfl tin_M (by decide) (tc tw_786) tM tM_ok nM rfl (by decide +kernel)) (
  xval (s_iinc (z := 1) (by decide +kernel) (by decide) (by decide)) (
  xval (s_goto (z := (-95)) (by decide +kernel) (by decide)) (
  xval (s_aload_n (f := 0) (by decide +kernel) rfl) (
  xval (s_callV (i := 184) c_M_pooled (by decide +kernel) rfl (xtt_good tw_1012) rfl (tc tw_1009) (tc tw_1011) (tc ts_49) (tc tw_6) ⟨by decide, by decide, by decide +kernel⟩ ⟨by decide, by decide, rfl, rfl, by decide, by decide⟩ x0_e) (
  xval (s_iret (by decide +kernel)) (
  xval_nil))))))))))))))))))))))))))))))))))))))))))))))))))))))))))))))
theorem c_M_descriptorInPool : xMet xCl y_M_descriptorInPool ws_M_descriptorInPool rm_M_descriptorInPool (xRun tb_M_descriptorInPool 6) := xMet.of (by decide) rfl v_M_descriptorInPool
end
section
def tb_M_emit : xT := [(0, o_aload 0 1), (1, o_getf 5 14), (4, o_aload 0 1), (5, o_getf 5 15), (8, o_iload 1 1), (9, o_iastore), (10, o_aload 0 1), (11, o_dup), (12, o_getf 5 15), (15, o_i 1 1), (16, o_ii (fun a b => a + b)), (17, o_puti 5 15), (20, o_vret)]
abbrev y_M_emit : MethodName := ⟨"NameMoverModel", "emit", "(I)V"⟩
abbrev rm_M_emit : Room := { frames := 0, cells := 0, slots := 0, locals := 0 }
abbrev ws_M_emit : List Cond := Cond.code y_M_emit prog_11_method_47_code 2 (none) :: xtt
set_option maxRecDepth 100000 in
theorem v_M_emit : ∀ q ∈ tb_M_emit, xSd (0, 0) x0 xCl "NameMoverModel" ws_M_emit prog_11_method_47_code 2 (none) rm_M_emit q :=
  xval (s_aload_n (f := 0) (by decide +kernel) rfl) (
  xval (s_getf (i := 45) (by decide +kernel) rfl tin_M (by decide) (tc tw_780)) (
  xval (s_aload_n (f := 0) (by decide +kernel) rfl) (
  xval (s_getf (i := 187) (by decide +kernel) rfl tin_M (by decide) (tc tw_781)) (
  xval (s_iload_n (f := 1) (by decide +kernel) rfl) (
  xval (s_iastore (by decide +kernel)) (
  xval (s_aload_n (f := 0) (by decide +kernel) rfl) (
  xval (s_dup (by decide +kernel)) (
  xval (s_getf (i := 187) (by decide +kernel) rfl tin_M (by decide) (tc tw_781)) (
  xval (s_iconst (z := 1) (by decide +kernel) (by decide)) (
  xval (s_iadd (by decide +kernel)) (
  xval (s_puti (i := 187) (by decide +kernel) rfl tin_M (by decide) (tc tw_781) tM tM_ok nM rfl (by decide +kernel)) (
  xval (s_vret (by decide +kernel)) (
  xval_nil)))))))))))))
theorem c_M_emit : xMet xCl y_M_emit ws_M_emit rm_M_emit (xRun tb_M_emit 2) := xMet.of (by decide) rfl v_M_emit
def tb_M_make : xT := [(0, o_aload 0 1), (1, o_i 0 1), (2, o_puti 5 16), (5, o_aload 0 1), (6, o_getf 5 21), (9, o_i 0 1), (10, o_aload 0 1), (11, o_aload 0 1), (12, o_getf 5 2), (15, o_iload 1 1), (16, o_laload), (17, o_callV (xRun tb_M_nameInPool 3) 5 1 0 0), (20, o_iastore), (21, o_aload 0 1), (22, o_getf 5 21), (25, o_i 1 1), (26, o_aload 0 1), (27, o_getf 5 4), (30, o_iload 1 1), (31, o_iaload), (32, o_if (fun a => 0 ≤ a) 39), (35, o_i 0 1), (36, o_goto 54), (39, o_aload 0 1), (40, o_aload 0 1), (41, o_getf 5 2), (44, o_aload 0 1), (45, o_getf 5 4), (48, o_iload 1 1), (49, o_iaload), (50, o_laload), (51, o_callV (xRun tb_M_nameInPool 3) 5 1 0 0), (54, o_iastore), (55, o_i 0 1), (56, o_istore 2 1), (57, o_iload 2 1), (58, o_aload 0 1), (59, o_getf 5 6), (62, o_iload 1 1), (63, o_iaload), (64, o_ic (fun a b => b ≤ a) 123), (67, o_aload 0 1), (68, o_getf 5 21), (71, o_i 2 1), (72, o_i 2 1), (73, o_iload 2 1), (74, o_ii (fun a b => a * b)), (75, o_ii (fun a b => a + b)), (76, o_aload 0 1), (77, o_aload 0 1), (78, o_getf 5 7), (81, o_i 8 2), (83, o_iload 1 1), (84, o_ii (fun a b => a * b)), (85, o_iload 2 1), (86, o_ii (fun a b => a + b)), (87, o_laload), (88, o_callV (xRun tb_M_nameInPool 3) 5 1 0 0), (91, o_iastore), (92, o_aload 0 1), (93, o_getf 5 21), (96, o_i 3 1), (97, o_i 2 1), (98, o_iload 2 1), (99, o_ii (fun a b => a * b)), (100, o_ii (fun a b => a + b)), (101, o_aload 0 1), (102, o_aload 0 1), (103, o_getf 5 9), (106, o_i 8 2), (108, o_iload 1 1), (109, o_ii (fun a b => a * b)), (110, o_iload 2 1), (111, o_ii (fun a b => a + b)), (112, o_laload), (113, o_callV (xRun tb_M_descriptorInPool 6) 5 1 0 0), (116, o_iastore), (117, o_iinc 2 1), (120, o_goto 57), (123, o_aload 0 1), (124, o_i 0 1), (125, o_puti 5 15), (128, o_aload 0 1), (129, o_i 202 3), (132, o_callV (xRun tb_M_emit 2) 5 1 0 0), (135, o_aload 0 1), (136, o_aload 0 1), (137, o_getf 5 16), (140, o_callV (xRun tb_M_emit 2) 5 1 0 0), (143, o_i 0 1), (144, o_istore 2 1), (145, o_iload 2 1), (146, o_aload 0 1), (147, o_getf 5 16), (150, o_ic (fun a b => b ≤ a) 202), (153, o_aload 0 1), (154, o_aload 0 1), (155, o_getf 5 18), (158, o_iload 2 1), (159, o_iaload), (160, o_callV (xRun tb_M_emit 2) 5 1 0 0), (163, o_i 0 1), (164, o_istore 3 1), (165, o_iload 3 1), (166, o_aload 0 1), (167, o_getf 5 18), (170, o_iload 2 1), (171, o_iaload), (172, o_ic (fun a b => b ≤ a) 196), (175, o_aload 0 1), (176, o_aload 0 1), (177, o_getf 5 17), (180, o_i 64 2), (182, o_iload 2 1), (183, o_ii (fun a b => a * b)), (184, o_iload 3 1), (185, o_ii (fun a b => a + b)), (186, o_iaload), (187, o_callV (xRun tb_M_emit 2) 5 1 0 0), (190, o_iinc 3 1), (193, o_goto 165), (196, o_iinc 2 1), (199, o_goto 145), (202, o_aload 0 1), (203, o_aload 0 1), (204, o_getf 5 21), (207, o_i 0 1), (208, o_iaload), (209, o_callV (xRun tb_M_emit 2) 5 1 0 0), (212, o_aload 0 1), (213, o_aload 0 1), (214, o_getf 5 21), (217, o_i 1 1), (218, o_iaload), (219, o_callV (xRun tb_M_emit 2) 5 1 0 0), (222, o_aload 0 1), (223, o_aload 0 1), (224, o_getf 5 5), (227, o_iload 1 1), (228, o_baload), (229, o_if (fun a => a = 0) 236), (232, o_i 1 1), (233, o_goto 237), (236, o_i 0 1), (237, o_callV (xRun tb_M_emit 2) 5 1 0 0), (240, o_aload 0 1), (241, o_aload 0 1), (242, o_getf 5 6), (245, o_iload 1 1), (246, o_iaload), (247, o_callV (xRun tb_M_emit 2) 5 1 0 0), (250, o_i 0 1), (251, o_istore 2 1), (252, o_iload 2 1), (253, o_aload 0 1), (254, o_getf 5 6), (257, o_iload 1 1), (258, o_iaload), (259, o_ic (fun a b => b ≤ a) 319), (262, o_aload 0 1), (263, o_aload 0 1), (264, o_getf 5 21), (267, o_i 2 1), (268, o_i 2 1), (269, o_iload 2 1), (270, o_ii (fun a b => a * b)), (271, o_ii (fun a b => a + b)), (272, o_iaload), (273, o_callV (xRun tb_M_emit 2) 5 1 0 0), (276, o_aload 0 1), (277, o_aload 0 1), (278, o_getf 5 21), (281, o_i 3 1), (282, o_i 2 1), (283, o_iload 2 1), (284, o_ii (fun a b => a * b)), (285, o_ii (fun a b => a + b)), (286, o_iaload), (287, o_callV (xRun tb_M_emit 2) 5 1 0 0), (290, o_aload 0 1), (291, o_aload 0 1), (292, o_getf 5 10), (295, o_i 8 2), (297, o_iload 1 1), (298, o_ii (fun a b => a * b)), (299, o_iload 2 1), (300, o_ii (fun a b => a + b)), (301, o_baload), (302, o_if (fun a => a = 0) 309), (305, o_i 1 1), (306, o_goto 310), (309, o_i 0 1), (310, o_callV (xRun tb_M_emit 2) 5 1 0 0), (313, o_iinc 2 1), (316, o_goto 252), (319, o_vret)]
abbrev y_M_make : MethodName := ⟨"NameMoverModel", "make", "(I)V"⟩
abbrev rm_M_make : Room := { frames := 4, cells := 0, slots := 0, locals := 93 }
abbrev ws_M_make : List Cond := Cond.code y_M_make prog_11_method_48_code 4 (none) :: xtt
set_option maxRecDepth 100000 in
theorem v_M_make : ∀ q ∈ tb_M_make, xSd (0, 0) x0 xCl "NameMoverModel" ws_M_make prog_11_method_48_code 4 (none) rm_M_make q :=
  xval (s_aload_n (f := 0) (by decide +kernel) rfl) (
  xval (s_iconst (z := 0) (by decide +kernel) (by decide)) (
  xval (s_puti (i := 174) (by decide +kernel) rfl tin_M (by decide) (tc tw_782) tM tM_ok nM rfl (by decide +kernel)) (
  xval (s_aload_n (f := 0) (by decide +kernel) rfl) (
  xval (s_getf (i := 57) (by decide +kernel) rfl tin_M (by decide) (tc tw_787)) (
  xval (s_iconst (z := 0) (by decide +kernel) (by decide)) (
  xval (s_aload_n (f := 0) (by decide +kernel) rfl) (
  xval (s_aload_n (f := 0) (by decide +kernel) rfl) (
  xval (s_getf (i := 7) (by decide +kernel) rfl tin_M (by decide) (tc tw_768)) (
  xval (s_iload_n (f := 1) (by decide +kernel) rfl) (
  xval (s_laload (by decide +kernel)) (
  xval (s_callV (i := 190) c_M_nameInPool (by decide +kernel) rfl (xtt_good tw_1004) rfl (tc tw_1001) (tc tw_1003) (tc ts_47) (tc tw_6) ⟨by decide, by decide, by decide +kernel⟩ ⟨by decide, by decide, rfl, rfl, by decide, by decide⟩ x0_e) (
  xval (s_iastore (by decide +kernel)) (
  xval (s_aload_n (f := 0) (by decide +kernel) rfl) (
  xval (s_getf (i := 57) (by decide +kernel) rfl tin_M (by decide) (tc tw_787)) (
  xval (s_iconst (z := 1) (by decide +kernel) (by decide)) (
  xval (s_aload_n (f := 0) (by decide +kernel) rfl) (
  xval (s_getf (i := 16) (by decide +kernel) rfl tin_M (by decide) (tc tw_770)) (
  xval (s_iload_n (f := 1) (by decide +kernel) rfl) (
  xval (s_iaload (by decide +kernel)) (
  xval (s_ifge (z := 7) (by decide +kernel) (by decide)) (
  xval (s_iconst (z := 0) (by decide +kernel) (by decide)) (
  xval (s_goto (z := 18) (by decide +kernel) (by decide)) (
  xval (s_aload_n (f := 0) (by decide +kernel) rfl) (
  xval (s_aload_n (f := 0) (by decide +kernel) rfl) (
  xval (s_getf (i := 7) (by decide +kernel) rfl tin_M (by decide) (tc tw_768)) (
  xval (s_aload_n (f := 0) (by decide +kernel) rfl) (
  xval (s_getf (i := 16) (by decide +kernel) rfl tin_M (by decide) (tc tw_770)) (
  xval (s_iload_n (f := 1) (by decide +kernel) rfl) (
  xval (s_iaload (by decide +kernel)) (
  xval (s_laload (by decide +kernel)) (
  xval (s_callV (i := 190) c_M_nameInPool (by decide +kernel) rfl (xtt_good tw_1004) rfl (tc tw_1001) (tc tw_1003) (tc ts_47) (tc tw_6) ⟨by decide, by decide, by decide +kernel⟩ ⟨by decide, by decide, rfl, rfl, by decide, by decide⟩ x0_e) (
  xval (s_iastore (by decide +kernel)) (
  xval (s_iconst (z := 0) (by decide +kernel) (by decide)) (
  xval (s_istore_n (f := 2) (by decide +kernel) rfl (by decide)) (
  xval (s_iload_n (f := 2) (by decide +kernel) rfl) (
  xval (s_aload_n (f := 0) (by decide +kernel) rfl) (
  xval (s_getf (i := 24) (by decide +kernel) rfl tin_M (by decide) (tc tw_772)) (
  xval (s_iload_n (f := 1) (by decide +kernel) rfl) (
  xval (s_iaload (by decide +kernel)) (
  xval (s_icge (z := 59) (by decide +kernel) (by decide)) (
  xval (s_aload_n (f := 0) (by decide +kernel) rfl) (
  xval (s_getf (i := 57) (by decide +kernel) rfl tin_M (by decide) (tc tw_787)) (
  xval (s_iconst (z := 2) (by decide +kernel) (by decide)) (
  xval (s_iconst (z := 2) (by decide +kernel) (by decide)) (
  xval (s_iload_n (f := 2) (by decide +kernel) rfl) (
  xval (s_imul (by decide +kernel)) (
  xval (s_iadd (by decide +kernel)) (
  xval (s_aload_n (f := 0) (by decide +kernel) rfl) (
  xval (s_aload_n (f := 0) (by decide +kernel) rfl) (
  xval (s_getf (i := 27) (by decide +kernel) rfl tin_M (by decide) (tc tw_773)) (
  xval (s_bipush (z := 8) (by decide +kernel) (by decide)) (
  xval (s_iload_n (f := 1) (by decide +kernel) rfl) (
  xval (s_imul (by decide +kernel)) (
  xval (s_iload_n (f := 2) (by decide +kernel) rfl) (
  xval (s_iadd (by decide +kernel)) (
  xval (s_laload (by decide +kernel)) (
  xval (s_callV (i := 190) c_M_nameInPool (by decide +kernel) rfl (xtt_good tw_1004) rfl (tc tw_1001) (tc tw_1003) (tc ts_47) (tc tw_6) ⟨by decide, by decide, by decide +kernel⟩ ⟨by decide, by decide, rfl, rfl, by decide, by decide⟩ x0_e) (
  xval (s_iastore (by decide +kernel)) (
  xval (s_aload_n (f := 0) (by decide +kernel) rfl) (
  xval (s_getf (i := 57) (by decide +kernel) rfl tin_M (by decide) (tc tw_787)) (
  xval (s_iconst (z := 3) (by decide +kernel) (by decide)) (
  xval (s_iconst (z := 2) (by decide +kernel) (by decide)) (
  xval (s_iload_n (f := 2) (by decide +kernel) rfl) (
  xval (s_imul (by decide +kernel)) (
  xval (s_iadd (by decide +kernel)) (
  xval (s_aload_n (f := 0) (by decide +kernel) rfl) (
  xval (s_aload_n (f := 0) (by decide +kernel) rfl) (
  xval (s_getf (i := 33) (by decide +kernel) rfl tin_M (by decide) (tc tw_775)) (
  xval (s_bipush (z := 8) (by decide +kernel) (by decide)) (
  xval (s_iload_n (f := 1) (by decide +kernel) rfl) (
  xval (s_imul (by decide +kernel)) (
  xval (s_iload_n (f := 2) (by decide +kernel) rfl) (
  xval (s_iadd (by decide +kernel)) (
  xval (s_laload (by decide +kernel)) (
  xval (s_callV (i := 193) c_M_descriptorInPool (by decide +kernel) rfl (xtt_good tw_1016) rfl (tc tw_1013) (tc tw_1015) (tc ts_50) (tc tw_6) ⟨by decide, by decide, by decide +kernel⟩ ⟨by decide, by decide, rfl, rfl, by decide, by decide⟩ x0_e) (
  xval (s_iastore (by decide +kernel)) (
  xval (s_iinc (z := 1) (by decide +kernel) (by decide) (by decide)) (
  xval (s_goto (z := (-63)) (by decide +kernel) (by decide)) (
  xval (s_aload_n (f := 0) (by decide +kernel) rfl) (
  xval (s_iconst (z := 0) (by decide +kernel) (by decide)) (
  xval (s_puti (i := 187) (by decide +kernel) rfl tin_M (by decide) (tc tw_781) tM tM_ok nM rfl (by decide +kernel)) (
  xval (s_aload_n (f := 0) (by decide +kernel) rfl) (
  xval (s_sipush (z := 202) (by decide +kernel) (by decide)) (
  xval (s_callV (i := 196) c_M_emit (by decide +kernel) rfl (xtt_good tw_1020) rfl (tc tw_1017) (tc tw_1019) (tc ts_51) (tc tw_6) ⟨by decide, by decide, by decide +kernel⟩ ⟨by decide, by decide, rfl, rfl, by decide, by decide⟩ x0_e) (
  xval (s_aload_n (f := 0) (by decide +kernel) rfl) (
  xval (s_aload_n (f := 0) (by decide +kernel) rfl) (
  xval (s_getf (i := 174) (by decide +kernel) rfl tin_M (by decide) (tc tw_782)) (
  xval (s_callV (i := 196) c_M_emit (by decide +kernel) rfl (xtt_good tw_1020) rfl (tc tw_1017) (tc tw_1019) (tc ts_51) (tc tw_6) ⟨by decide, by decide, by decide +kernel⟩ ⟨by decide, by decide, rfl, rfl, by decide, by decide⟩ x0_e) (
  xval (s_iconst (z := 0) (by decide +kernel) (by decide)) (
  xval (s_istore_n (f := 2) (by decide +kernel) rfl (by decide)) (
  xval (s_iload_n (f := 2) (by decide +kernel) rfl) (
  xval (s_aload_n (f := 0) (by decide +kernel) rfl) (
  xval (s_getf (i := 174) (by decide +kernel) rfl tin_M (by decide) (tc tw_782)) (
  xval (s_icge (z := 52) (by decide +kernel) (by decide)) (
  xval (s_aload_n (f := 0) (by decide +kernel) rfl) (
  xval (s_aload_n (f := 0) (by decide +kernel) rfl) (
  xval (s_getf (i := 51) (by decide +kernel) rfl tin_M (by decide) (tc tw_784)) (
  xval (s_iload_n (f := 2) (by decide +kernel) rfl) (
  xval (s_iaload (by decide +kernel)) (
  xval (s_callV (i := 196) c_M_emit (by decide +kernel) rfl (xtt_good tw_1020) rfl (tc tw_1017) (tc tw_1019) (tc ts_51) (tc tw_6) ⟨by decide, by decide, by decide +kernel⟩ ⟨by decide, by decide, rfl, rfl, by decide, by decide⟩ x0_e) (
  xval (s_iconst (z := 0) (by decide +kernel) (by decide)) (
  xval (s_istore_n (f := 3) (by decide +kernel) rfl (by decide)) (
  xval (s_iload_n (f := 3) (by decide +kernel) rfl) (
  xval (s_aload_n (f := 0) (by decide +kernel) rfl) (
  xval (s_getf (i := 51) (by decide +kernel) rfl tin_M (by decide) (tc tw_784)) (
  xval (s_iload_n (f := 2) (by decide +kernel) rfl) (
  xval (s_iaload (by decide +kernel)) (
  xval (s_icge (z := 24) (by decide +kernel) (by decide)) (
  xval (s_aload_n (f := 0) (by decide +kernel) rfl) (
  xval (s_aload_n (f := 0) (by decide +kernel) rfl) (
  xval (s_getf (i := 48) (by decide +kernel) rfl tin_M (by decide) (tc tw_783)) (
  xval (s_bipush (z := 64) (by decide +kernel) (by decide)) (
  xval (s_iload_n (f := 2) (by decide +kernel) rfl) (
  xval (s_imul (by decide +kernel)) (
  xval (s_iload_n (f := 3) (by decide +kernel) rfl) (
  xval (s_iadd (by decide +kernel)) (
  xval (s_iaload (by decide +kernel)) (
  xval (s_callV (i := 196) c_M_emit (by decide +kernel) rfl (xtt_good tw_1020) rfl (tc tw_1017) (tc tw_1019) (tc ts_51) (tc tw_6) ⟨by decide, by decide, by decide +kernel⟩ ⟨by decide, by decide, rfl, rfl, by decide, by decide⟩ x0_e) (
  xval (s_iinc (z := 1) (by decide +kernel) (by decide) (by decide)) (
  xval (s_goto (z := (-28)) (by decide +kernel) (by decide)) (
  xval (s_iinc (z := 1) (by decide +kernel) (by decide) (by decide)) (
  xval (s_goto (z := (-54)) (by decide +kernel) (by decide)) (
  xval (s_aload_n (f := 0) (by decide +kernel) rfl) (
  xval (s_aload_n (f := 0) (by decide +kernel) rfl) (
  xval (s_getf (i := 57) (by decide +kernel) rfl tin_M (by decide) (tc tw_787)) (
  xval (s_iconst (z := 0) (by decide +kernel) (by decide)) (
  xval (s_iaload (by decide +kernel)) (
  xval (s_callV (i := 196) c_M_emit (by decide +kernel) rfl (xtt_good tw_1020) rfl (tc tw_1017) (tc tw_1019) (tc ts_51) (tc tw_6) ⟨by decide, by decide, by decide +kernel⟩ ⟨by decide, by decide, rfl, rfl, by decide, by decide⟩ x0_e) (
  xval (s_aload_n (f := 0) (by decide +kernel) rfl) (
  xval (s_aload_n (f := 0) (by decide +kernel) rfl) (
  xval (s_getf (i := 57) (by decide +kernel) rfl tin_M (by decide) (tc tw_787)) (
  xval (s_iconst (z := 1) (by decide +kernel) (by decide)) (
  xval (s_iaload (by decide +kernel)) (
  xval (s_callV (i := 196) c_M_emit (by decide +kernel) rfl (xtt_good tw_1020) rfl (tc tw_1017) (tc tw_1019) (tc ts_51) (tc tw_6) ⟨by decide, by decide, by decide +kernel⟩ ⟨by decide, by decide, rfl, rfl, by decide, by decide⟩ x0_e) (
  xval (s_aload_n (f := 0) (by decide +kernel) rfl) (
  xval (s_aload_n (f := 0) (by decide +kernel) rfl) (
  xval (s_getf (i := 20) (by decide +kernel) rfl tin_M (by decide) (tc tw_771)) (
  xval (s_iload_n (f := 1) (by decide +kernel) rfl) (
  xval (s_baload (by decide +kernel)) (
  xval (s_ifeq (z := 7) (by decide +kernel) (by decide)) (
  xval (s_iconst (z := 1) (by decide +kernel) (by decide)) (
  xval (s_goto (z := 4) (by decide +kernel) (by decide)) (
  xval (s_iconst (z := 0) (by decide +kernel) (by decide)) (
  xval (s_callV (i := 196) c_M_emit (by decide +kernel) rfl (xtt_good tw_1020) rfl (tc tw_1017) (tc tw_1019) (tc ts_51) (tc tw_6) ⟨by decide, by decide, by decide +kernel⟩ ⟨by decide, by decide, rfl, rfl, by decide, by decide⟩ x0_e) (
  xval (s_aload_n (f := 0) (by decide +kernel) rfl) (
  xval (s_aload_n (f := 0) (by decide +kernel) rfl) (
  xval (s_getf (i := 24) (by decide +kernel) rfl tin_M (by decide) (tc tw_772)) (
  xval (s_iload_n (f := 1) (by decide +kernel) rfl) (
  xval (s_iaload (by decide +kernel)) (
  xval (s_callV (i := 196) c_M_emit (by decide +kernel) rfl (xtt_good tw_1020) rfl (tc tw_1017) (tc tw_1019) (tc ts_51) (tc tw_6) ⟨by decide, by decide, by decide +kernel⟩ ⟨by decide, by decide, rfl, rfl, by decide, by decide⟩ x0_e) (
  xval (s_iconst (z := 0) (by decide +kernel) (by decide)) (
  xval (s_istore_n (f := 2) (by decide +kernel) rfl (by decide)) (
  xval (s_iload_n (f := 2) (by decide +kernel) rfl) (
  xval (s_aload_n (f := 0) (by decide +kernel) rfl) (
  xval (s_getf (i := 24) (by decide +kernel) rfl tin_M (by decide) (tc tw_772)) (
  xval (s_iload_n (f := 1) (by decide +kernel) rfl) (
  xval (s_iaload (by decide +kernel)) (
  xval (s_icge (z := 60) (by decide +kernel) (by decide)) (
  xval (s_aload_n (f := 0) (by decide +kernel) rfl) (
  xval (s_aload_n (f := 0) (by decide +kernel) rfl) (
  xval (s_getf (i := 57) (by decide +kernel) rfl tin_M (by decide) (tc tw_787)) (
  xval (s_iconst (z := 2) (by decide +kernel) (by decide)) (
  xval (s_iconst (z := 2) (by decide +kernel) (by decide)) (
  xval (s_iload_n (f := 2) (by decide +kernel) rfl) (
  xval (s_imul (by decide +kernel)) (
  xval (s_iadd (by decide +kernel)) (
  xval (s_iaload (by decide +kernel)) (
  xval (s_callV (i := 196) c_M_emit (by decide +kernel) rfl (xtt_good tw_1020) rfl (tc tw_1017) (tc tw_1019) (tc ts_51) (tc tw_6) ⟨by decide, by decide, by decide +kernel⟩ ⟨by decide, by decide, rfl, rfl, by decide, by decide⟩ x0_e) (
  xval (s_aload_n (f := 0) (by decide +kernel) rfl) (
  xval (s_aload_n (f := 0) (by decide +kernel) rfl) (
  xval (s_getf (i := 57) (by decide +kernel) rfl tin_M (by decide) (tc tw_787)) (
  xval (s_iconst (z := 3) (by decide +kernel) (by decide)) (
  xval (s_iconst (z := 2) (by decide +kernel) (by decide)) (
  xval (s_iload_n (f := 2) (by decide +kernel) rfl) (
  xval (s_imul (by decide +kernel)) (
  xval (s_iadd (by decide +kernel)) (
  xval (s_iaload (by decide +kernel)) (
  xval (s_callV (i := 196) c_M_emit (by decide +kernel) rfl (xtt_good tw_1020) rfl (tc tw_1017) (tc tw_1019) (tc ts_51) (tc tw_6) ⟨by decide, by decide, by decide +kernel⟩ ⟨by decide, by decide, rfl, rfl, by decide, by decide⟩ x0_e) (
  xval (s_aload_n (f := 0) (by decide +kernel) rfl) (
  xval (s_aload_n (f := 0) (by decide +kernel) rfl) (
  xval (s_getf (i := 36) (by decide +kernel) rfl tin_M (by decide) (tc tw_776)) (
  xval (s_bipush (z := 8) (by decide +kernel) (by decide)) (
  xval (s_iload_n (f := 1) (by decide +kernel) rfl) (
  xval (s_imul (by decide +kernel)) (
  xval (s_iload_n (f := 2) (by decide +kernel) rfl) (
  xval (s_iadd (by decide +kernel)) (
  xval (s_baload (by decide +kernel)) (
  xval (s_ifeq (z := 7) (by decide +kernel) (by decide)) (
  xval (s_iconst (z := 1) (by decide +kernel) (by decide)) (
  xval (s_goto (z := 4) (by decide +kernel) (by decide)) (
  xval (s_iconst (z := 0) (by decide +kernel) (by decide)) (
  xval (s_callV (i := 196) c_M_emit (by decide +kernel) rfl (xtt_good tw_1020) rfl (tc tw_1017) (tc tw_1019) (tc ts_51) (tc tw_6) ⟨by decide, by decide, by decide +kernel⟩ ⟨by decide, by decide, rfl, rfl, by decide, by decide⟩ x0_e) (
  xval (s_iinc (z := 1) (by decide +kernel) (by decide) (by decide)) (
  xval (s_goto (z := (-64)) (by decide +kernel) (by decide)) (
  xval (s_vret (by decide +kernel)) (
  xval_nil))))))))))))))))))))))))))))))))))))))))))))))))))))))))))))))))))))))))))))))))))))))))))))))))))))))))))))))))))))))))))))))))))))))))))))))))))))))))))))))))))))))))))))))))))))))))))))))))))))
theorem c_M_make : xMet xCl y_M_make ws_M_make rm_M_make (xRun tb_M_make 4) := xMet.of (by decide) rfl v_M_make
def tb_M_write : xT := [(0, o_aload 0 1), (1, o_aload 0 1), (2, o_iload 1 1), (3, o_callV (xRun tb_M_isClass 2) 5 1 0 0), (6, o_if (fun a => a = 0) 13), (9, o_i 0 1), (10, o_goto 14), (13, o_i 1 1), (14, o_puti 5 0), (17, o_aload 0 1), (18, o_getf 5 0), (21, o_if (fun a => a ≤ 0) 26), (24, o_i 0 1), (25, o_iret), (26, o_aload 0 1), (27, o_iload 1 1), (28, o_callV (xRun tb_M_make 4) 5 1 0 0), (31, o_aload 0 1), (32, o_aload 0 1), (33, o_getf 5 15), (36, o_puti 5 13), (39, o_i 0 1), (40, o_istore 2 1), (41, o_iload 2 1), (42, o_aload 0 1), (43, o_getf 5 13), (46, o_ic (fun a b => b ≤ a) 67), (49, o_aload 0 1), (50, o_getf 5 12), (53, o_iload 2 1), (54, o_aload 0 1), (55, o_getf 5 14), (58, o_iload 2 1), (59, o_iaload), (60, o_iastore), (61, o_iinc 2 1), (64, o_goto 41), (67, o_aload 0 1), (68, o_getf 5 13), (71, o_iret)]
abbrev y_M_write : MethodName := ⟨"NameMoverModel", "write", "(I)I"⟩
abbrev rm_M_write : Room := { frames := 5, cells := 0, slots := 0, locals := 116 }
abbrev ws_M_write : List Cond := Cond.code y_M_write prog_11_method_49_code 3 (some .int) :: xtt
set_option maxRecDepth 100000 in
theorem v_M_write : ∀ q ∈ tb_M_write, xSd (0, 0) x0 xCl "NameMoverModel" ws_M_write prog_11_method_49_code 3 (some .int) rm_M_write q :=
  xval (s_aload_n (f := 0) (by decide +kernel) rfl) (
  xval (s_aload_n (f := 0) (by decide +kernel) rfl) (
  xval (s_iload_n (f := 1) (by decide +kernel) rfl) (
  xval (s_callV (i := 102) c_M_isClass (by decide +kernel) rfl (xtt_good tw_866) rfl (tc tw_863) (tc tw_865) (tc ts_28) (tc tw_6) ⟨by decide, by decide, by decide +kernel⟩ ⟨by decide, by decide, rfl, rfl, by decide, by decide⟩ x0_e) (
  xval (s_ifeq (z := 7) (by decide +kernel) (by decide)) (
  xval (s_iconst (z := 0) (by decide +kernel) (by decide)) (
  xval (s_goto (z := 4) (by decide +kernel) (by decide)) (
  xval (s_iconst (z := 1) (by decide +kernel) (by decide)) (
  xval (s_puti (i := 60) (by decide +kernel) rfl tin_M (by decide) (tc tw_766) tM tM_ok nM rfl (by decide +kernel)) (
  xval (s_aload_n (f := 0) (by decide +kernel) rfl) (
  xval (s_getf (i := 60) (by decide +kernel) rfl tin_M (by decide) (tc tw_766)) (
  xval (s_ifle (z := 5) (by decide +kernel) (by decide)) (
  xval (s_iconst (z := 0) (by decide +kernel) (by decide)) (
  xval (s_iret (by decide +kernel)) (
  xval (s_aload_n (f := 0) (by decide +kernel) rfl) (
  xval (s_iload_n (f := 1) (by decide +kernel) rfl) (
  xval (s_callV (i := 200) c_M_make (by decide +kernel) rfl (xtt_good tw_1000) rfl (tc tw_997) (tc tw_999) (tc ts_46) (tc tw_6) ⟨by decide, by decide, by decide +kernel⟩ ⟨by decide, by decide, rfl, rfl, by decide, by decide⟩ x0_e) (
  xval (s_aload_n (f := 0) (by decide +kernel) rfl) (
  xval (s_aload_n (f := 0) (by decide +kernel) rfl) (
  xval (s_getf (i := 187) (by decide +kernel) rfl tin_M (by decide) (tc tw_781)) (
  xval (s_puti (i := 203) (by decide +kernel) rfl tin_M (by decide) (tc tw_779) tM tM_ok nM rfl (by decide +kernel)) (
  xval (s_iconst (z := 0) (by decide +kernel) (by decide)) (
  xval (s_istore_n (f := 2) (by decide +kernel) rfl (by decide)) (
  xval (s_iload_n (f := 2) (by decide +kernel) rfl) (
  xval (s_aload_n (f := 0) (by decide +kernel) rfl) (
  xval (s_getf (i := 203) (by decide +kernel) rfl tin_M (by decide) (tc tw_779)) (
  xval (s_icge (z := 21) (by decide +kernel) (by decide)) (
  xval (s_aload_n (f := 0) (by decide +kernel) rfl) (
  xval (s_getf (i := 42) (by decide +kernel) rfl tin_M (by decide) (tc tw_778)) (
  xval (s_iload_n (f := 2) (by decide +kernel) rfl) (
  xval (s_aload_n (f := 0) (by decide +kernel) rfl) (
  xval (s_getf (i := 45) (by decide +kernel) rfl tin_M (by decide) (tc tw_780)) (
  xval (s_iload_n (f := 2) (by decide +kernel) rfl) (
  xval (s_iaload (by decide +kernel)) (
  xval (s_iastore (by decide +kernel)) (
  xval (s_iinc (z := 1) (by decide +kernel) (by decide) (by decide)) (
  xval (s_goto (z := (-23)) (by decide +kernel) (by decide)) (
  xval (s_aload_n (f := 0) (by decide +kernel) rfl) (
  xval (s_getf (i := 203) (by decide +kernel) rfl tin_M (by decide) (tc tw_779)) (
  xval (s_iret (by decide +kernel)) (
  xval_nil))))))))))))))))))))))))))))))))))))))))
theorem c_M_write : xMet xCl y_M_write ws_M_write rm_M_write (xRun tb_M_write 3) := xMet.of (by decide) rfl v_M_write
def tb_M_byteAt : xT := [(0, o_aload 0 1), (1, o_iload 1 1), (2, o_if (fun a => a < 0) 17), (5, o_iload 1 1), (6, o_aload 0 1), (7, o_getf 5 13), (10, o_ic (fun a b => b ≤ a) 17), (13, o_i 0 1), (14, o_goto 18), (17, o_i 1 1), (18, o_puti 5 0), (21, o_aload 0 1), (22, o_getf 5 0), (25, o_if (fun a => a ≤ 0) 32), (28, o_i 0 1), (29, o_goto 38), (32, o_aload 0 1), (33, o_getf 5 12), (36, o_iload 1 1), (37, o_iaload), (38, o_iret)]
abbrev y_M_byteAt : MethodName := ⟨"NameMoverModel", "byteAt", "(I)I"⟩
abbrev rm_M_byteAt : Room := { frames := 0, cells := 0, slots := 0, locals := 0 }
abbrev ws_M_byteAt : List Cond := Cond.code y_M_byteAt prog_11_method_50_code 2 (some .int) :: xtt
set_option maxRecDepth 100000 in
theorem v_M_byteAt : ∀ q ∈ tb_M_byteAt, xSd (0, 0) x0 xCl "NameMoverModel" ws_M_byteAt prog_11_method_50_code 2 (some .int) rm_M_byteAt q :=
  xval (s_aload_n (f := 0) (by decide +kernel) rfl) (
  xval (s_iload_n (f := 1) (by decide +kernel) rfl) (
  xval (s_iflt (z := 15) (by decide +kernel) (by decide)) (
  xval (s_iload_n (f := 1) (by decide +kernel) rfl) (
  xval (s_aload_n (f := 0) (by decide +kernel) rfl) (
  xval (s_getf (i := 203) (by decide +kernel) rfl tin_M (by decide) (tc tw_779)) (
  xval (s_icge (z := 7) (by decide +kernel) (by decide)) (
  xval (s_iconst (z := 0) (by decide +kernel) (by decide)) (
  xval (s_goto (z := 4) (by decide +kernel) (by decide)) (
  xval (s_iconst (z := 1) (by decide +kernel) (by decide)) (
  xval (s_puti (i := 60) (by decide +kernel) rfl tin_M (by decide) (tc tw_766) tM tM_ok nM rfl (by decide +kernel)) (
  xval (s_aload_n (f := 0) (by decide +kernel) rfl) (
  xval (s_getf (i := 60) (by decide +kernel) rfl tin_M (by decide) (tc tw_766)) (
  xval (s_ifle (z := 7) (by decide +kernel) (by decide)) (
  xval (s_iconst (z := 0) (by decide +kernel) (by decide)) (
  xval (s_goto (z := 9) (by decide +kernel) (by decide)) (
  xval (s_aload_n (f := 0) (by decide +kernel) rfl) (
  xval (s_getf (i := 42) (by decide +kernel) rfl tin_M (by decide) (tc tw_778)) (
  xval (s_iload_n (f := 1) (by decide +kernel) rfl) (
  xval (s_iaload (by decide +kernel)) (
  xval (s_iret (by decide +kernel)) (
  xval_nil)))))))))))))))))))))
theorem c_M_byteAt : xMet xCl y_M_byteAt ws_M_byteAt rm_M_byteAt (xRun tb_M_byteAt 2) := xMet.of (by decide) rfl v_M_byteAt
def tb_M_poke : xT := [(0, o_aload 0 1), (1, o_iload 1 1), (2, o_if (fun a => a < 0) 13), (5, o_iload 1 1), (6, o_aload 0 1), (7, o_getf 5 13), (10, o_ic (fun a b => a < b) 17), (13, o_i 1 1), (14, o_goto 33), (17, o_iload 2 1), (18, o_if (fun a => a < 0) 28), (21, o_iload 2 1), (22, o_i 255 3), (25, o_ic (fun a b => a ≤ b) 32), (28, o_i 2 1), (29, o_goto 33), (32, o_i 0 1), (33, o_puti 5 0), (36, o_aload 0 1), (37, o_getf 5 0), (40, o_ifn (fun a => a = 0) 50), (43, o_aload 0 1), (44, o_getf 5 12), (47, o_iload 1 1), (48, o_iload 2 1), (49, o_iastore), (50, o_vret)]
abbrev y_M_poke : MethodName := ⟨"NameMoverModel", "poke", "(II)V"⟩
abbrev rm_M_poke : Room := { frames := 0, cells := 0, slots := 0, locals := 0 }
abbrev ws_M_poke : List Cond := Cond.code y_M_poke prog_11_method_51_code 3 (none) :: xtt
set_option maxRecDepth 100000 in
theorem v_M_poke : ∀ q ∈ tb_M_poke, xSd (0, 0) x0 xCl "NameMoverModel" ws_M_poke prog_11_method_51_code 3 (none) rm_M_poke q :=
  xval (s_aload_n (f := 0) (by decide +kernel) rfl) (
  xval (s_iload_n (f := 1) (by decide +kernel) rfl) (
  xval (s_iflt (z := 11) (by decide +kernel) (by decide)) (
  xval (s_iload_n (f := 1) (by decide +kernel) rfl) (
  xval (s_aload_n (f := 0) (by decide +kernel) rfl) (
  xval (s_getf (i := 203) (by decide +kernel) rfl tin_M (by decide) (tc tw_779)) (
  xval (s_iclt (z := 7) (by decide +kernel) (by decide)) (
  xval (s_iconst (z := 1) (by decide +kernel) (by decide)) (
  xval (s_goto (z := 19) (by decide +kernel) (by decide)) (
  xval (s_iload_n (f := 2) (by decide +kernel) rfl) (
  xval (s_iflt (z := 10) (by decide +kernel) (by decide)) (
  xval (s_iload_n (f := 2) (by decide +kernel) rfl) (
  xval (s_sipush (z := 255) (by decide +kernel) (by decide)) (
  xval (s_icle (z := 7) (by decide +kernel) (by decide)) (
  xval (s_iconst (z := 2) (by decide +kernel) (by decide)) (
  xval (s_goto (z := 4) (by decide +kernel) (by decide)) (
  xval (s_iconst (z := 0) (by decide +kernel) (by decide)) (
  xval (s_puti (i := 60) (by decide +kernel) rfl tin_M (by decide) (tc tw_766) tM tM_ok nM rfl (by decide +kernel)) (
  xval (s_aload_n (f := 0) (by decide +kernel) rfl) (
  xval (s_getf (i := 60) (by decide +kernel) rfl tin_M (by decide) (tc tw_766)) (
  xval (s_ifne (z := 10) (by decide +kernel) (by decide)) (
  xval (s_aload_n (f := 0) (by decide +kernel) rfl) (
  xval (s_getf (i := 42) (by decide +kernel) rfl tin_M (by decide) (tc tw_778)) (
  xval (s_iload_n (f := 1) (by decide +kernel) rfl) (
  xval (s_iload_n (f := 2) (by decide +kernel) rfl) (
  xval (s_iastore (by decide +kernel)) (
  xval (s_vret (by decide +kernel)) (
  xval_nil)))))))))))))))))))))))))))
theorem c_M_poke : xMet xCl y_M_poke ws_M_poke rm_M_poke (xRun tb_M_poke 3) := xMet.of (by decide) rfl v_M_poke
def tb_M_next : xT := [(0, o_aload 0 1), (1, o_dup), (2, o_getf 5 22), (5, o_i 1 1), (6, o_ii (fun a b => a + b)), (7, o_puti 5 22), (10, o_aload 0 1), (11, o_getf 5 22), (14, o_aload 0 1), (15, o_getf 5 13), (18, o_ic (fun a b => b < a) 35), (21, o_aload 0 1), (22, o_getf 5 12), (25, o_aload 0 1), (26, o_getf 5 22), (29, o_i 1 1), (30, o_ii (fun a b => a - b)), (31, o_iaload), (32, o_goto 36), (35, o_i (-1) 1), (36, o_iret)]
abbrev y_M_next : MethodName := ⟨"NameMoverModel", "next", "()I"⟩
abbrev rm_M_next : Room := { frames := 0, cells := 0, slots := 0, locals := 0 }
abbrev ws_M_next : List Cond := Cond.code y_M_next prog_11_method_52_code 1 (some .int) :: xtt
set_option maxRecDepth 100000 in
theorem v_M_next : ∀ q ∈ tb_M_next, xSd (0, 0) x0 xCl "NameMoverModel" ws_M_next prog_11_method_52_code 1 (some .int) rm_M_next q :=
  xval (s_aload_n (f := 0) (by decide +kernel) rfl) (
  xval (s_dup (by decide +kernel)) (
  xval (s_getf (i := 92) (by decide +kernel) rfl tin_M (by decide) (tc tw_788)) (
  xval (s_iconst (z := 1) (by decide +kernel) (by decide)) (
  xval (s_iadd (by decide +kernel)) (
  xval (s_puti (i := 92) (by decide +kernel) rfl tin_M (by decide) (tc tw_788) tM tM_ok nM rfl (by decide +kernel)) (
  xval (s_aload_n (f := 0) (by decide +kernel) rfl) (
  xval (s_getf (i := 92) (by decide +kernel) rfl tin_M (by decide) (tc tw_788)) (
  xval (s_aload_n (f := 0) (by decide +kernel) rfl) (
  xval (s_getf (i := 203) (by decide +kernel) rfl tin_M (by decide) (tc tw_779)) (
  xval (s_icgt (z := 17) (by decide +kernel) (by decide)) (
  xval (s_aload_n (f := 0) (by decide +kernel) rfl) (
  xval (s_getf (i := 42) (by decide +kernel) rfl tin_M (by decide) (tc tw_778)) (
  xval (s_aload_n (f := 0) (by decide +kernel) rfl) (
  xval (s_getf (i := 92) (by decide +kernel) rfl tin_M (by decide) (tc tw_788)) (
  xval (s_iconst (z := 1) (by decide +kernel) (by decide)) (
  xval (s_isub (by decide +kernel)) (
  xval (s_iaload (by decide +kernel)) (
  xval (s_goto (z := 4) (by decide +kernel) (by decide)) (
  xval (s_iconst (z := (-1)) (by decide +kernel) (by decide)) (
  xval (s_iret (by decide +kernel)) (
  xval_nil)))))))))))))))))))))
theorem c_M_next : xMet xCl y_M_next ws_M_next rm_M_next (xRun tb_M_next 1) := xMet.of (by decide) rfl v_M_next
def tb_M_readPool : xT := [(0, o_aload 0 1), (1, o_i 0 1), (2, o_puti 5 22), (5, o_aload 0 1), (6, o_callV (xRun tb_M_next 1) 5 0 0 0), (9, o_i 202 3), (12, o_ic (fun a b => a = b) 17), (15, o_i 0 1), (16, o_zret), (17, o_aload 0 1), (18, o_callV (xRun tb_M_next 1) 5 0 0 0), (21, o_istore 1 1), (22, o_iload 1 1), (23, o_i 1 1), (24, o_ic (fun a b => a < b) 33), (27, o_iload 1 1), (28, o_i 14 2), (30, o_ic (fun a b => a ≤ b) 35), (33, o_i 0 1), (34, o_zret), (35, o_aload 0 1), (36, o_i 0 1), (37, o_puti 5 16), (40, o_aload 0 1), (41, o_getf 5 16), (44, o_iload 1 1), (45, o_ic (fun a b => b ≤ a) 133), (48, o_aload 0 1), (49, o_callV (xRun tb_M_next 1) 5 0 0 0), (52, o_istore 2 1), (53, o_iload 2 1), (54, o_i 1 1), (55, o_ic (fun a b => a < b) 77), (58, o_iload 2 1), (59, o_i 62 2), (61, o_ic (fun a b => b < a) 77), (64, o_aload 0 1), (65, o_getf 5 22), (68, o_iload 2 1), (69, o_ii (fun a b => a + b)), (70, o_aload 0 1), (71, o_getf 5 13), (74, o_ic (fun a b => a ≤ b) 79), (77, o_i 0 1), (78, o_zret), (79, o_i 0 1), (80, o_istore 3 1), (81, o_iload 3 1), (82, o_iload 2 1), (83, o_ic (fun a b => b ≤ a) 110), (86, o_aload 0 1), (87, o_getf 5 17), (90, o_i 64 2), (92, o_aload 0 1), (93, o_getf 5 16), (96, o_ii (fun a b => a * b)), (97, o_iload 3 1), (98, o_ii (fun a b => a + b)), (99, o_aload 0 1), (100, o_callV (xRun tb_M_next 1) 5 0 0 0), (103, o_iastore), (104, o_iinc 3 1), (107, o_goto 81), (110, o_aload 0 1), (111, o_getf 5 18), (114, o_aload 0 1), (115, o_getf 5 16), (118, o_iload 2 1), (119, o_iastore), (120, o_aload 0 1), (121, o_dup), (122, o_getf 5 16), (125, o_i 1 1), (126, o_ii (fun a b => a + b)), (127, o_puti 5 16), (130, o_goto 40), (133, o_i 1 1), (134, o_zret)]
abbrev y_M_readPool : MethodName := ⟨"NameMoverModel", "readPool", "()Z"⟩
abbrev rm_M_readPool : Room := { frames := 1, cells := 0, slots := 0, locals := 20 }
abbrev ws_M_readPool : List Cond := Cond.code y_M_readPool prog_11_method_53_code 4 (some .boolean) :: xtt
set_option maxRecDepth 100000 in
theorem v_M_readPool : ∀ q ∈ tb_M_readPool, xSd (0, 0) x0 xCl "NameMoverModel" ws_M_readPool prog_11_method_53_code 4 (some .boolean) rm_M_readPool q :=
  xval (s_aload_n (f := 0) (by decide +kernel) rfl) (
  xval (s_iconst (z := 0) (by decide +kernel) (by decide)) (
  xval (s_puti (i := 92) (by decide +kernel) rfl tin_M (by decide) (tc tw_788) tM tM_ok nM rfl (by decide +kernel)) (
  xval (s_aload_n (f := 0) (by decide +kernel) rfl) (
  xval (s_callV (i := 206) c_M_next (by decide +kernel) rfl (xtt_good tw_1044) rfl (tc tw_1041) (tc tw_1043) (tc ts_54) (tc tw_6) ⟨by decide, by decide, by decide +kernel⟩ ⟨by decide, by decide, rfl, rfl, by decide, by decide⟩ x0_e) (
  xval (s_sipush (z := 202) (by decide +kernel) (by decide)) (
  xval (s_iceq (z := 5) (by decide +kernel) (by decide)) (
  xval (s_iconst (z := 0) (by decide +kernel) (by decide)) (
  xval (s_zret (by decide +kernel)) (
  xval (s_aload_n (f := 0) (by decide +kernel) rfl) (
  xval (s_callV (i := 206) c_M_next (by decide +kernel) rfl (xtt_good tw_1044) rfl (tc tw_1041) (tc tw_1043) (tc ts_54) (tc tw_6) ⟨by decide, by decide, by decide +kernel⟩ ⟨by decide, by decide, rfl, rfl, by decide, by decide⟩ x0_e) (
  xval (s_istore_n (f := 1) (by decide +kernel) rfl (by decide)) (
  xval (s_iload_n (f := 1) (by decide +kernel) rfl) (
  xval (s_iconst (z := 1) (by decide +kernel) (by decide)) (
  xval (s_iclt (z := 9) (by decide +kernel) (by decide)) (
  xval (s_iload_n (f := 1) (by decide +kernel) rfl) (
  xval (s_bipush (z := 14) (by decide +kernel) (by decide)) (
  xval (s_icle (z := 5) (by decide +kernel) (by decide)) (
  xval (s_iconst (z := 0) (by decide +kernel) (by decide)) (
  xval (s_zret (by decide +kernel)) (
  xval (s_aload_n (f := 0) (by decide +kernel) rfl) (
  xval (s_iconst (z := 0) (by decide +kernel) (by decide)) (
  xval (s_puti (i := 174) (by decide +kernel) rfl tin_M (by decide) (tc tw_782) tM tM_ok nM rfl (by decide +kernel)) (
  xval (s_aload_n (f := 0) (by decide +kernel) rfl) (
  xval (s_getf (i := 174) (by decide +kernel) rfl tin_M (by decide) (tc tw_782)) (
  xval (s_iload_n (f := 1) (by decide +kernel) rfl) (
  xval (s_icge (z := 88) (by decide +kernel) (by decide)) (
  xval (s_aload_n (f := 0) (by decide +kernel) rfl) (
  xval (s_callV (i := 206) c_M_next (by decide +kernel) rfl (xtt_good tw_1044) rfl (tc tw_1041) (tc tw_1043) (tc ts_54) (tc tw_6) ⟨by decide, by decide, by decide +kernel⟩ ⟨by decide, by decide, rfl, rfl, by decide, by decide⟩ x0_e) (
  xval (s_istore_n (f := 2) (by decide +kernel) rfl (by decide)) (
  xval (s_iload_n (f := 2) (by decide +kernel) rfl) (
  xval (s_iconst (z := 1) (by decide +kernel) (by decide)) (
  xval (s_iclt (z := 22) (by decide +kernel) (by decide)) (
  xval (s_iload_n (f := 2) (by decide +kernel) rfl) (
  xval (s_bipush (z := 62) (by decide +kernel) (by decide)) (
  xval (s_icgt (z := 16) (by decide +kernel) (by decide)) (
  xval (s_aload_n (f := 0) (by decide +kernel) rfl) (
  xval (s_getf (i := 92) (by decide +kernel) rfl tin_M (by decide) (tc tw_788)) (
  xval (s_iload_n (f := 2) (by decide +kernel) rfl) (
  xval (s_iadd (by decide +kernel)) (
  xval (s_aload_n (f := 0) (by decide +kernel) rfl) (
  xval (s_getf (i := 203) (by decide +kernel) rfl tin_M (by decide) (tc tw_779)) (
  xval (s_icle (z := 5) (by decide +kernel) (by decide)) (
  xval (s_iconst (z := 0) (by decide +kernel) (by decide)) (
  xval (s_zret (by decide +kernel)) (
  xval (s_iconst (z := 0) (by decide +kernel) (by decide)) (
  xval (s_istore_n (f := 3) (by decide +kernel) rfl (by decide)) (
  xval (s_iload_n (f := 3) (by decide +kernel) rfl) (
  xval (s_iload_n (f := 2) (by decide +kernel) rfl) (
  xval (s_icge (z := 27) (by decide +kernel) (by decide)) (
  xval (s_aload_n (f := 0) (by decide +kernel) rfl) (
  xval (s_getf (i := 48) (by decide +kernel) rfl tin_M (by decide) (tc tw_783)) (
  xval (s_bipush (z := 64) (by decide +kernel) (by decide)) (
  xval (s_aload_n (f := 0) (by decide +kernel) rfl) (
  xval (s_getf (i := 174) (by decide +kernel) rfl tin_M (by decide) (tc tw_782)) (
  xval (s_imul (by decide +kernel)) (
  xval (s_iload_n (f := 3) (by decide +kernel) rfl) (
  xval (s_iadd (by decide +kernel)) (
  xval (s_aload_n (f := 0) (by decide +kernel) rfl) (
  xval (s_callV (i := 206) c_M_next (by decide +kernel) rfl (xtt_good tw_1044) rfl (tc tw_1041) (tc tw_1043) (tc ts_54) (tc tw_6) ⟨by decide, by decide, by decide +kernel⟩ ⟨by decide, by decide, rfl, rfl, by decide, by decide⟩ x0_e) (
  xval (s_iastore (by decide +kernel)) (
  xval (s_iinc (z := 1) (by decide +kernel) (by decide) (by decide)) (
  xval (s_goto (z := (-26)) (by decide +kernel) (by decide)) (
  xval (s_aload_n (f := 0) (by decide +kernel) rfl) (
  xval (s_getf (i := 51) (by decide +kernel) rfl tin_M (by decide) (tc tw_784)) (
  xval (s_aload_n (f := 0) (by decide +kernel) rfl) (
  xval (s_getf (i := 174) (by decide +kernel) rfl tin_M (by decide) (tc tw_782)) (
  xval (s_iload_n (f := 2) (by decide +kernel) rfl) (
  xval (s_iastore (by decide +kernel)) (
  xval (s_aload_n (f := 0) (by decide +kernel) rfl) (
  xval (s_dup (by decide +kernel)) (
  xval (s_getf (i := 174) (by decide +kernel) rfl tin_M (by decide) (tc tw_782)) (
  xval (s_iconst (z := 1) (by decide +kernel) (by decide)) (
  xval (s_iadd (by decide +kernel)) (
  xval (s_puti (i := 174) (by decide +kernel) rfl tin_M (by decide) (tc tw_782) tM tM_ok nM rfl (by decide +kernel)) (
  xval (s_goto (z := (-90)) (by decide +kernel) (by decide)) (
  xval (s_iconst (z := 1) (by decide +kernel) (by decide)) (
  xval (s_zret (by decide +kernel)) (
  xval_nil))))))))))))))))))))))))))))))))))))))))))))))))))))))))))))))))))))))))))))))
theorem c_M_readPool : xMet xCl y_M_readPool ws_M_readPool rm_M_readPool (xRun tb_M_readPool 4) := xMet.of (by decide) rfl v_M_readPool
end
section
def tb_M_textOf : xT := [(0, o_iload 1 1), (1, o_i 1 1), (2, o_ic (fun a b => a < b) 26), (5, o_iload 1 1), (6, o_aload 0 1), (7, o_getf 5 16), (10, o_ic (fun a b => b < a) 26), (13, o_aload 0 1), (14, o_getf 5 18), (17, o_iload 1 1), (18, o_i 1 1), (19, o_ii (fun a b => a - b)), (20, o_iaload), (21, o_i 8 2), (23, o_ic (fun a b => a ≤ b) 28), (26, o_l 0 1), (27, o_lret), (28, o_l 0 1), (29, o_lstore 2 1), (30, o_i 0 1), (31, o_istore 4 2), (33, o_iload 4 2), (35, o_aload 0 1), (36, o_getf 5 18), (39, o_iload 1 1), (40, o_i 1 1), (41, o_ii (fun a b => a - b)), (42, o_iaload), (43, o_ic (fun a b => b ≤ a) 77), (46, o_lload 2 1), (47, o_aload 0 1), (48, o_getf 5 17), (51, o_i 64 2), (53, o_iload 1 1), (54, o_ii (fun a b => a * b)), (55, o_i 64 2), (57, o_ii (fun a b => a - b)), (58, o_iload 4 2), (60, o_ii (fun a b => a + b)), (61, o_iaload), (62, o_i2l), (63, o_i 8 2), (65, o_iload 4 2), (67, o_ii (fun a b => a * b)), (68, o_li xshl), (69, o_ll (fun a b => a ||| b)), (70, o_lstore 2 1), (71, o_iinc 4 1), (74, o_goto 33), (77, o_lload 2 1), (78, o_lret)]
abbrev y_M_textOf : MethodName := ⟨"NameMoverModel", "textOf", "(I)J"⟩
abbrev rm_M_textOf : Room := { frames := 0, cells := 0, slots := 0, locals := 0 }
abbrev ws_M_textOf : List Cond := Cond.code y_M_textOf prog_11_method_54_code 5 (some .long) :: xtt
set_option maxRecDepth 100000 in
theorem v_M_textOf : ∀ q ∈ tb_M_textOf, xSd (0, 0) x0 xCl "NameMoverModel" ws_M_textOf prog_11_method_54_code 5 (some .long) rm_M_textOf q :=
  xval (s_iload_n (f := 1) (by decide +kernel) rfl) (
  xval (s_iconst (z := 1) (by decide +kernel) (by decide)) (
  xval (s_iclt (z := 24) (by decide +kernel) (by decide)) (
  xval (s_iload_n (f := 1) (by decide +kernel) rfl) (
  xval (s_aload_n (f := 0) (by decide +kernel) rfl) (
  xval (s_getf (i := 174) (by decide +kernel) rfl tin_M (by decide) (tc tw_782)) (
  xval (s_icgt (z := 16) (by decide +kernel) (by decide)) (
  xval (s_aload_n (f := 0) (by decide +kernel) rfl) (
  xval (s_getf (i := 51) (by decide +kernel) rfl tin_M (by decide) (tc tw_784)) (
  xval (s_iload_n (f := 1) (by decide +kernel) rfl) (
  xval (s_iconst (z := 1) (by decide +kernel) (by decide)) (
  xval (s_isub (by decide +kernel)) (
  xval (s_iaload (by decide +kernel)) (
  xval (s_bipush (z := 8) (by decide +kernel) (by decide)) (
  xval (s_icle (z := 5) (by decide +kernel) (by decide)) (
  xval (s_lconst (z := 0) (by decide +kernel) (by decide)) (
  xval (s_lret (by decide +kernel)) (
  xval (s_lconst (z := 0) (by decide +kernel) (by decide)) (
  xval (s_lstore_n (f := 2) (by decide +kernel) rfl (by decide)) (
  xval (s_iconst (z := 0) (by decide +kernel) (by decide)) (
  xval (s_istore (by decide +kernel) (by decide)) (
  xval (s_iload (by decide +kernel)) (
  xval (s_aload_n (f := 0) (by decide +kernel) rfl) (
  xval (s_getf (i := 51) (by decide +kernel) rfl tin_M (by decide) (tc tw_784)) (
  xval (s_iload_n (f := 1) (by decide +kernel) rfl) (
  xval (s_iconst (z := 1) (by decide +kernel) (by decide)) (
  xval (s_isub (by decide +kernel)) (
  xval (s_iaload (by decide +kernel)) (
  xval (s_icge (z := 34) (by decide +kernel) (by decide)) (
  xval (s_lload_n (f := 2) (by decide +kernel) rfl) (
  xval (s_aload_n (f := 0) (by decide +kernel) rfl) (
  xval (s_getf (i := 48) (by decide +kernel) rfl tin_M (by decide) (tc tw_783)) (
  xval (s_bipush (z := 64) (by decide +kernel) (by decide)) (
  xval (s_iload_n (f := 1) (by decide +kernel) rfl) (
  xval (s_imul (by decide +kernel)) (
  xval (s_bipush (z := 64) (by decide +kernel) (by decide)) (
  xval (s_isub (by decide +kernel)) (
  xval (s_iload (by decide +kernel)) (
  xval (s_iadd (by decide +kernel)) (
  xval (s_iaload (by decide +kernel)) (
  xval (s_i2l (by decide +kernel)) (
  xval (s_bipush (z := 8) (by decide +kernel) (by decide)) (
  xval (s_iload (by decide +kernel)) (
  xval (s_imul (by decide +kernel)) (
  xval (s_lshl (by decide +kernel)) (
  xval (s_lor (by decide +kernel)) (
  xval (s_lstore_n (f := 2) (by decide +kernel) rfl (by decide)) (
  xval (s_iinc (z := 1) (by decide +kernel) (by decide) (by decide)) (
  xval (s_goto (z := (-41)) (by decide +kernel) (by decide)) (
  xval (s_lload_n (f := 2) (by decide +kernel) rfl) (
  xval (s_lret (by decide +kernel)) (
  xval_nil)))))))))))))))))))))))))))))))))))))))))))))))))))
theorem c_M_textOf : xMet xCl y_M_textOf ws_M_textOf rm_M_textOf (xRun tb_M_textOf 5) := xMet.of (by decide) rfl v_M_textOf
def tb_M_written : xT := [(0, o_l 0 1), (1, o_lstore 3 1), (2, o_iload 2 1), (3, o_istore 5 2), (5, o_iload 5 2), (7, o_aload 0 1), (8, o_getf 5 18), (11, o_iload 1 1), (12, o_i 1 1), (13, o_ii (fun a b => a - b)), (14, o_iaload), (15, o_ic (fun a b => b ≤ a) 93), (18, o_iload 5 2), (20, o_iload 2 1), (21, o_i 9 2), (23, o_ii (fun a b => a + b)), (24, o_ic (fun a b => b ≤ a) 93), (27, o_aload 0 1), (28, o_getf 5 17), (31, o_i 64 2), (33, o_iload 1 1), (34, o_ii (fun a b => a * b)), (35, o_i 64 2), (37, o_ii (fun a b => a - b)), (38, o_iload 5 2), (40, o_ii (fun a b => a + b)), (41, o_iaload), (42, o_i 59 2), (44, o_ic (fun a b => a = b) 93), (47, o_iload 5 2), (49, o_iload 2 1), (50, o_i 8 2), (52, o_ii (fun a b => a + b)), (53, o_ic (fun a b => b ≤ a) 85), (56, o_lload 3 1), (57, o_aload 0 1), (58, o_getf 5 17), (61, o_i 64 2), (63, o_iload 1 1), (64, o_ii (fun a b => a * b)), (65, o_i 64 2), (67, o_ii (fun a b => a - b)), (68, o_iload 5 2), (70, o_ii (fun a b => a + b)), (71, o_iaload), (72, o_i2l), (73, o_i 8 2), (75, o_iload 5 2), (77, o_iload 2 1), (78, o_ii (fun a b => a - b)), (79, o_ii (fun a b => a * b)), (80, o_li xshl), (81, o_ll (fun a b => a ||| b)), (82, o_goto 86), (85, o_lload 3 1), (86, o_lstore 3 1), (87, o_iinc 5 1), (90, o_goto 5), (93, o_iload 5 2), (95, o_aload 0 1), (96, o_getf 5 18), (99, o_iload 1 1), (100, o_i 1 1), (101, o_ii (fun a b => a - b)), (102, o_iaload), (103, o_ic (fun a b => b ≤ a) 115), (106, o_iload 5 2), (108, o_iload 2 1), (109, o_i 8 2), (111, o_ii (fun a b => a + b)), (112, o_ic (fun a b => a ≤ b) 117), (115, o_i (-1) 1), (116, o_iret), (117, o_aload 0 1), (118, o_getf 5 2), (121, o_aload 0 1), (122, o_getf 5 1), (125, o_laload), (126, o_lload 3 1), (127, o_lcmp), (128, o_ifn (fun a => a = 0) 138), (131, o_aload 0 1), (132, o_getf 5 1), (135, o_goto 143), (138, o_aload 0 1), (139, o_lload 3 1), (140, o_callV (xRun tb_M_named 5) 5 1 0 0), (143, o_iret)]
abbrev y_M_written : MethodName := ⟨"NameMoverModel", "written", "(II)I"⟩
abbrev rm_M_written : Room := { frames := 1, cells := 0, slots := 0, locals := 24 }
abbrev ws_M_written : List Cond := Cond.code y_M_written prog_11_method_55_code 6 (some .int) :: xtt
set_option maxRecDepth 100000 in
theorem v_M_written : ∀ q ∈ tb_M_written, xSd (0, 0) x0 xCl "NameMoverModel" ws_M_written prog_11_method_55_code 6 (some .int) rm_M_written q :=
  xval (s_lconst (z := 0) (by decide +kernel) (by decide)) (
  xval (s_lstore_n (f := 3) (by decide +kernel) rfl (by decide)) (
  xval (s_iload_n (f := 2) (by decide +kernel) rfl) (
  xval (s_istore (by decide +kernel) (by decide)) (
  xval (s_iload (by decide +kernel)) (
  xval (s_aload_n (f := 0) (by decide +kernel) rfl) (
  xval (s_getf (i := 51) (by decide +kernel) rfl tin_M (by decide) (tc tw_784)) (
  xval (s_iload_n (f := 1) (by decide +kernel) rfl) (
  xval (s_iconst (z := 1) (by decide +kernel) (by decide)) (
  xval (s_isub (by decide +kernel)) (
  xval (s_iaload (by decide +kernel)) (
  xval (s_icge (z := 78) (by decide +kernel) (by decide)) (
  xval (s_iload (by decide +kernel)) (
  xval (s_iload_n (f := 2) (by decide +kernel) rfl) (
  xval (s_bipush (z := 9) (by decide +kernel) (by decide)) (
  xval (s_iadd (by decide +kernel)) (
  xval (s_icge (z := 69) (by decide +kernel) (by decide)) (
  xval (s_aload_n (f := 0) (by decide +kernel) rfl) (
  xval (s_getf (i := 48) (by decide +kernel) rfl tin_M (by decide) (tc tw_783)) (
  xval (s_bipush (z := 64) (by decide +kernel) (by decide)) (
  xval (s_iload_n (f := 1) (by decide +kernel) rfl) (
  xval (s_imul (by decide +kernel)) (
  xval (s_bipush (z := 64) (by decide +kernel) (by decide)) (
  xval (s_isub (by decide +kernel)) (
  xval (s_iload (by decide +kernel)) (
  xval (s_iadd (by decide +kernel)) (
  xval (s_iaload (by decide +kernel)) (
  xval (s_bipush (z := 59) (by decide +kernel) (by decide)) (
  xval (s_iceq (z := 49) (by decide +kernel) (by decide)) (
  xval (s_iload (by decide +kernel)) (
  xval (s_iload_n (f := 2) (by decide +kernel) rfl) (
  xval (s_bipush (z := 8) (by decide +kernel) (by decide)) (
  xval (s_iadd (by decide +kernel)) (
  xval (s_icge (z := 32) (by decide +kernel) (by decide)) (
  xval (s_lload_n (f := 3) (by decide +kernel) rfl) (
  xval (s_aload_n (f := 0) (by decide +kernel) rfl) (
  xval (s_getf (i := 48) (by decide +kernel) rfl tin_M (by decide) (tc tw_783)) (
  xval (s_bipush (z := 64) (by decide +kernel) (by decide)) (
  xval (s_iload_n (f := 1) (by decide +kernel) rfl) (
  xval (s_imul (by decide +kernel)) (
  xval (s_bipush (z := 64) (by decide +kernel) (by decide)) (
  xval (s_isub (by decide +kernel)) (
  xval (s_iload (by decide +kernel)) (
  xval (s_iadd (by decide +kernel)) (
  xval (s_iaload (by decide +kernel)) (
  xval (s_i2l (by decide +kernel)) (
  xval (s_bipush (z := 8) (by decide +kernel) (by decide)) (
  xval (s_iload (by decide +kernel)) (
  xval (s_iload_n (f := 2) (by decide +kernel) rfl) (
  xval (s_isub (by decide +kernel)) (
  xval (s_imul (by decide +kernel)) (
  xval (s_lshl (by decide +kernel)) (
  xval (s_lor (by decide +kernel)) (
  xval (s_goto (z := 4) (by decide +kernel) (by decide)) (
  xval (s_lload_n (f := 3) (by decide +kernel) rfl) (
  xval (s_lstore_n (f := 3) (by decide +kernel) rfl (by decide)) (
  xval (s_iinc (z := 1) (by decide +kernel) (by decide) (by decide)) (
  xval (s_goto (z := (-85)) (by decide +kernel) (by decide)) (
  xval (s_iload (by decide +kernel)) (
  xval (s_aload_n (f := 0) (by decide +kernel) rfl) (
  xval (s_getf (i := 51) (by decide +kernel) rfl tin_M (by decide) (tc tw_784)) (
  xval (s_iload_n (f := 1) (by decide +kernel) rfl) (
  xval (s_iconst (z := 1) (by decide +kernel) (by decide)) (
  xval (s_isub (by decide +kernel)) (
  xval (s_iaload (by decide +kernel)) (
  xval (s_icge (z := 12) (by decide +kernel) (by decide)) (
  xval (s_iload (by decide +kernel)) (
  xval (s_iload_n (f := 2) (by decide +kernel) rfl) (
  xval (s_bipush (z := 8) (by decide +kernel) (by decide)) (
  xval (s_iadd (by decide +kernel)) (
  xval (s_icle (z := 5) (by decide +kernel) (by decide)) (
  xval (s_iconst (z := (-1)) (by decide +kernel) (by decide)) (
  xval (s_iret (by decide +kernel)) (
  xval (s_aload_n (f := 0) (by decide +kernel) rfl) (
  xval (s_getf (i := 7) (by decide +kernel) rfl tin_M (by decide) (tc tw_768)) (
  xval (s_aload_n (f := 0) (by decide +kernel) rfl) (
  xval (s_getf (i := 99) (by decide +kernel) rfl tin_M (by decide) (tc tw_767)) (
  xval (s_laload (by decide +kernel)) (
  xval (s_lload_n (f := 3) (by decide +kernel) rfl) (
  xval (s_lcmp (by decide +kernel)) (
  xval (s_ifne (z := 10) (by decide +kernel) (by decide)) (
  xval (s_aload_n (f := 0) (by decide +kernel) rfl) (
  xval (s_getf (i := 99) (by decide +kernel) rfl tin_M (by decide) (tc tw_767)) (
  xval (s_goto (z := 8) (by decide +kernel) (by decide)) (
  xval (s_aload_n (f := 0) (by decide +kernel) rfl) (
  xval (s_lload_n (f := 3) (by decide +kernel) rfl) (
  xval (s_callV (i := 117) c_M_named (by decide +kernel) rfl (xtt_good tw_874) rfl (tc tw_871) (tc tw_873) (tc ts_30) (tc tw_6) ⟨by decide, by decide, by decide +kernel⟩ ⟨by decide, by decide, rfl, rfl, by decide, by decide⟩ x0_e) (
  xval (s_iret (by decide +kernel)) (
  xval_nil))))))))))))))))))))))))))))))))))))))))))))))))))))))))))))))))))))))))))))))))))))))))
theorem c_M_written : xMet xCl y_M_written ws_M_written rm_M_written (xRun tb_M_written 6) := xMet.of (by decide) rfl v_M_written
def tb_M_descriptorOf : xT := [(0, o_iload 1 1), (1, o_i 1 1), (2, o_ic (fun a b => a < b) 13), (5, o_iload 1 1), (6, o_aload 0 1), (7, o_getf 5 16), (10, o_ic (fun a b => a ≤ b) 15), (13, o_l 0 1), (14, o_lret), (15, o_l 0 1), (16, o_lstore 2 1), (17, o_i 0 1), (18, o_istore 4 2), (20, o_i 0 1), (21, o_istore 5 2), (23, o_iload 5 2), (25, o_aload 0 1), (26, o_getf 5 18), (29, o_iload 1 1), (30, o_i 1 1), (31, o_ii (fun a b => a - b)), (32, o_iaload), (33, o_ic (fun a b => b ≤ a) 151), (36, o_iload 4 2), (38, o_i 9 2), (40, o_ic (fun a b => b ≤ a) 151), (43, o_aload 0 1), (44, o_getf 5 17), (47, o_i 64 2), (49, o_iload 1 1), (50, o_ii (fun a b => a * b)), (51, o_i 64 2), (53, o_ii (fun a b => a - b)), (54, o_iload 5 2), (56, o_ii (fun a b => a + b)), (57, o_iaload), (58, o_istore 6 2), (60, o_iload 6 2), (62, o_istore 7 2), (64, o_iload 6 2), (66, o_call (xRun tb_M_isDigit 1) 1 0 0), (69, o_ifn (fun a => a = 0) 79), (72, o_iload 4 2), (74, o_i 8 2), (76, o_icn (fun a b => a = b) 81), (79, o_l 0 1), (80, o_lret), (81, o_iload 6 2), (83, o_i 76 2), (85, o_icn (fun a b => a = b) 130), (88, o_aload 0 1), (89, o_iload 1 1), (90, o_iload 5 2), (92, o_i 1 1), (93, o_ii (fun a b => a + b)), (94, o_callV (xRun tb_M_written 6) 5 2 0 0), (97, o_istore 8 2), (99, o_iload 8 2), (101, o_if (fun a => 0 ≤ a) 106), (104, o_l 0 1), (105, o_lret), (106, o_i 48 2), (108, o_iload 8 2), (110, o_ii (fun a b => a + b)), (111, o_istore 7 2), (113, o_iload 5 2), (115, o_i 1 1), (116, o_ii (fun a b => a + b)), (117, o_aload 0 1), (118, o_getf 5 2), (121, o_iload 8 2), (123, o_laload), (124, o_call (xRun tb_M_length 3) 1 0 0), (127, o_ii (fun a b => a + b)), (128, o_istore 5 2), (130, o_lload 2 1), (131, o_iload 7 2), (133, o_i2l), (134, o_i 8 2), (136, o_iload 4 2), (138, o_ii (fun a b => a * b)), (139, o_li xshl), (140, o_ll (fun a b => a ||| b)), (141, o_lstore 2 1), (142, o_iinc 4 1), (145, o_iinc 5 1), (148, o_goto 23), (151, o_lload 2 1), (152, o_lret)]
abbrev y_M_descriptorOf : MethodName := ⟨"NameMoverModel", "descriptorOf", "(I)J"⟩
abbrev rm_M_descriptorOf : Room := { frames := 2, cells := 0, slots := 0, locals := 49 }
abbrev ws_M_descriptorOf : List Cond := Cond.code y_M_descriptorOf prog_11_method_56_code 9 (some .long) :: xtt
set_option maxRecDepth 100000 in
theorem v_M_descriptorOf : ∀ q ∈ tb_M_descriptorOf, xSd (0, 0) x0 xCl "NameMoverModel" ws_M_descriptorOf prog_11_method_56_code 9 (some .long) rm_M_descriptorOf q :=
  xval (s_iload_n (f := 1) (by decide +kernel) rfl) (
  xval (s_iconst (z := 1) (by decide +kernel) (by decide)) (
  xval (s_iclt (z := 11) (by decide +kernel) (by decide)) (
  xval (s_iload_n (f := 1) (by decide +kernel) rfl) (
  xval (s_aload_n (f := 0) (by decide +kernel) rfl) (
  xval (s_getf (i := 174) (by decide +kernel) rfl tin_M (by decide) (tc tw_782)) (
  xval (s_icle (z := 5) (by decide +kernel) (by decide)) (
  xval (s_lconst (z := 0) (by decide +kernel) (by decide)) (
  xval (s_lret (by decide +kernel)) (
  xval (s_lconst (z := 0) (by decide +kernel) (by decide)) (
  xval (s_lstore_n (f := 2) (by decide +kernel) rfl (by decide)) (
  xval (s_iconst (z := 0) (by decide +kernel) (by decide)) (
  xval (s_istore (by decide +kernel) (by decide)) (
  xval (s_iconst (z := 0) (by decide +kernel) (by decide)) (
  xval (s_istore (by decide +kernel) (by decide)) (
  xval (s_iload (by decide +kernel)) (
  xval (s_aload_n (f := 0) (by decide +kernel) rfl) (
  xval (s_getf (i := 51) (by decide +kernel) rfl tin_M (by decide) (tc tw_784)) (
  xval (s_iload_n (f := 1) (by decide +kernel) rfl) (
  xval (s_iconst (z := 1) (by decide +kernel) (by decide)) (
  xval (s_isub (by decide +kernel)) (
  xval (s_iaload (by decide +kernel)) (
  xval (s_icge (z := 118) (by decide +kernel) (by decide)) (
  xval (s_iload (by decide +kernel)) (
  xval (s_bipush (z := 9) (by decide +kernel) (by decide)) (
  xval (s_icge (z := 111) (by decide +kernel) (by decide)) (
  xval (s_aload_n (f := 0) (by decide +kernel) rfl) (
  xval (s_getf (i := 48) (by decide +kernel) rfl tin_M (by decide) (tc tw_783)) (
  xval (s_bipush (z := 64) (by decide +kernel) (by decide)) (
  xval (s_iload_n (f := 1) (by decide +kernel) rfl) (
  xval (s_imul (by decide +kernel)) (
  xval (s_bipush (z := 64) (by decide +kernel) (by decide)) (
  xval (s_isub (by decide +kernel)) (
  xval (s_iload (by decide +kernel)) (
  xval (s_iadd (by decide +kernel)) (
  xval (s_iaload (by decide +kernel)) (
  xval (s_istore (by decide +kernel) (by decide)) (
  xval (s_iload (by decide +kernel)) (
  xval (s_istore (by decide +kernel) (by decide)) (
  xval (s_iload (by decide +kernel)) (
  xval (s_callS (i := 82) c_M_isDigit (by decide +kernel) rfl (xtt_good tw_862) (tc tw_860) (tc tw_861) (tc tw_6) ⟨by decide, by decide, by decide +kernel⟩ ⟨by decide, by decide, rfl, rfl, by decide, by decide⟩ x0_e) (
  xval (s_ifne (z := 10) (by decide +kernel) (by decide)) (
  xval (s_iload (by decide +kernel)) (
  xval (s_bipush (z := 8) (by decide +kernel) (by decide)) (
  xval (s_icne (z := 5) (by decide +kernel) (by decide)) (
  xval (s_lconst (z := 0) (by decide +kernel) (by decide)) (
  xval (s_lret (by decide +kernel)) (
  xval (s_iload (by decide +kernel)) (
  xval (s_bipush (z := 76) (by decide +kernel) (by decide)) (
  xval (s_icne (z := 45) (by decide +kernel) (by decide)) (
  xval (s_aload_n (f := 0) (by decide +kernel) rfl) (
  xval (s_iload_n (f := 1) (by decide +kernel) rfl) (
  xval (s_iload (by decide +kernel)) (
  xval (s_iconst (z := 1) (by decide +kernel) (by decide)) (
  xval (s_iadd (by decide +kernel)) (
  xval (s_callV (i := 209) c_M_written (by decide +kernel) rfl (xtt_good tw_1060) rfl (tc tw_1057) (tc tw_1059) (tc ts_58) (tc tw_6) ⟨by decide, by decide, by decide +kernel⟩ ⟨by decide, by decide, rfl, rfl, by decide, by decide⟩ x0_e) (
  xval (s_istore (by decide +kernel) (by decide)) (
  xval (s_iload (by decide +kernel)) (
  xval (s_ifge (z := 5) (by decide +kernel) (by decide)) (
  xval (s_lconst (z := 0) (by decide +kernel) (by decide)) (
  xval (s_lret (by decide +kernel)) (
  xval (s_bipush (z := 48) (by decide +kernel) (by decide)) (
  xval (s_iload (by decide +kernel)) (
  xval (s_iadd (by decide +kernel)) (
  xval (s_istore (by decide +kernel) (by decide)) (
  xval (s_iload (by decide +kernel)) (
  xval (s_iconst (z := 1) (by decide +kernel) (by decide)) (
  xval (s_iadd (by decide +kernel)) (
  xval (s_aload_n (f := 0) (by decide +kernel) rfl) (
  xval (s_getf (i := 7) (by decide +kernel) rfl tin_M (by decide) (tc tw_768)) (
  xval (s_iload (by decide +kernel)) (
  xval (s_laload (by decide +kernel)) (
  xval (s_callS (i := 70) c_M_length (by decide +kernel) rfl (xtt_good tw_849) (tc tw_847) (tc tw_848) (tc tw_6) ⟨by decide, by decide, by decide +kernel⟩ ⟨by decide, by decide, rfl, rfl, by decide, by decide⟩ x0_e) (
  xval (s_iadd (by decide +kernel)) (
  xval (s_istore (by decide +kernel) (by decide)) (
  xval (s_lload_n (f := 2) (by decide +kernel) rfl) (
  xval (s_iload (by decide +kernel)) (
  xval (s_i2l (by decide +kernel)) (
  xval (s_bipush (z := 8) (by decide +kernel) (by decide)) (
  xval (s_iload (by decide +kernel)) (
  xval (s_imul (by decide +kernel)) (
  xval (s_lshl (by decide +kernel)) (
  xval (s_lor (by decide +kernel)) (
  xval (s_lstore_n (f := 2) (by decide +kernel) rfl (by decide)) (
  xval (s_iinc (z := 1) (by decide +kernel) (by decide) (by decide)) (
  xval (s_iinc (z := 1) (by decide +kernel) (by decide) (by decide)) (
  xval (s_goto (z := (-125)) (by decide +kernel) (by decide)) (
  xval (s_lload_n (f := 2) (by decide +kernel) rfl) (
  xval (s_lret (by decide +kernel)) (
  xval_nil)))))))))))))))))))))))))))))))))))))))))))))))))))))))))))))))))))))))))))))))))))))))))
theorem c_M_descriptorOf : xMet xCl y_M_descriptorOf ws_M_descriptorOf rm_M_descriptorOf (xRun tb_M_descriptorOf 9) := xMet.of (by decide) rfl v_M_descriptorOf
def tb_M_isDescriptorOfFile : xT := [(0, o_aload 0 1), (1, o_getf 5 22), (4, o_istore 3 1), (5, o_aload 0 1), (6, o_lload 1 1), (7, o_aload 0 1), (8, o_getf 5 1), (11, o_i 1 1), (12, o_ii (fun a b => a + b)), (13, o_callV (xRun tb_M_isDescriptor 5) 5 2 0 0), (16, o_istore 4 2), (18, o_aload 0 1), (19, o_iload 3 1), (20, o_puti 5 22), (23, o_iload 4 2), (25, o_zret)]
abbrev y_M_isDescriptorOfFile : MethodName := ⟨"NameMoverModel", "isDescriptorOfFile", "(J)Z"⟩
abbrev rm_M_isDescriptorOfFile : Room := { frames := 4, cells := 0, slots := 0, locals := 92 }
abbrev ws_M_isDescriptorOfFile : List Cond := Cond.code y_M_isDescriptorOfFile prog_11_method_58_code 5 (some .boolean) :: xtt
set_option maxRecDepth 100000 in
theorem v_M_isDescriptorOfFile : ∀ q ∈ tb_M_isDescriptorOfFile, xSd (0, 0) x0 xCl "NameMoverModel" ws_M_isDescriptorOfFile prog_11_method_58_code 5 (some .boolean) rm_M_isDescriptorOfFile q :=
  xval (s_aload_n (f := 0) (by decide +kernel) rfl) (
  xval (s_getf (i := 92) (by decide +kernel) rfl tin_M (by decide) (tc tw_788)) (
  xval (s_istore_n (f := 3) (by decide +kernel) rfl (by decide)) (
  xval (s_aload_n (f := 0) (by decide +kernel) rfl) (
  xval (s_lload_n (f := 1) (by decide +kernel) rfl) (
  xval (s_aload_n (f := 0) (by decide +kernel) rfl) (
  xval (s_getf (i := 99) (by decide +kernel) rfl tin_M (by decide) (tc tw_767)) (
  xval (s_iconst (z := 1) (by decide +kernel) (by decide)) (
  xval (s_iadd (by decide +kernel)) (
  xval (s_callV (i := 124) c_M_isDescriptor (by decide +kernel) rfl (xtt_good tw_886) rfl (tc tw_883) (tc tw_885) (tc ts_32) (tc tw_6) ⟨by decide, by decide, by decide +kernel⟩ ⟨by decide, by decide, rfl, rfl, by decide, by decide⟩ x0_e) (
  xval (s_istore (by decide +kernel) (by decide)) (
  xval (s_aload_n (f := 0) (by decide +kernel) rfl) (
  xval (s_iload_n (f := 3) (by decide +kernel) rfl) (
  xval (s_puti (i := 92) (by decide +kernel) rfl tin_M (by decide) (tc tw_788) tM tM_ok nM rfl (by decide +kernel)) (
  xval (s_iload (by decide +kernel)) (
  xval (s_zret (by decide +kernel)) (
  xval_nil))))))))))))))))
theorem c_M_isDescriptorOfFile : xMet xCl y_M_isDescriptorOfFile ws_M_isDescriptorOfFile rm_M_isDescriptorOfFile (xRun tb_M_isDescriptorOfFile 5) := xMet.of (by decide) rfl v_M_isDescriptorOfFile
def tb_M_readMembers : xT := [(0, o_i 0 1), (1, o_istore 2 1), (2, o_iload 2 1), (3, o_iload 1 1), (4, o_ic (fun a b => b ≤ a) 104), (7, o_aload 0 1), (8, o_aload 0 1), (9, o_callV (xRun tb_M_next 1) 5 0 0 0), (12, o_callV (xRun tb_M_textOf 5) 5 1 0 0), (15, o_lstore 3 1), (16, o_aload 0 1), (17, o_aload 0 1), (18, o_callV (xRun tb_M_next 1) 5 0 0 0), (21, o_callV (xRun tb_M_descriptorOf 9) 5 1 0 0), (24, o_lstore 5 2), (26, o_aload 0 1), (27, o_callV (xRun tb_M_next 1) 5 0 0 0), (30, o_istore 7 2), (32, o_lload 3 1), (33, o_i 1 1), (34, o_call (xRun tb_M_isName 8) 2 0 0), (37, o_if (fun a => a = 0) 74), (40, o_aload 0 1), (41, o_lload 5 2), (43, o_callV (xRun tb_M_isDescriptorOfFile 5) 5 1 0 0), (46, o_if (fun a => a = 0) 74), (49, o_iload 7 2), (51, o_if (fun a => a < 0) 74), (54, o_iload 7 2), (56, o_i 1 1), (57, o_ic (fun a b => b < a) 74), (60, o_aload 0 1), (61, o_aload 0 1), (62, o_getf 5 1), (65, o_lload 3 1), (66, o_lload 5 2), (68, o_callV (xRun tb_M_has 8) 5 3 0 0), (71, o_if (fun a => a < 0) 76), (74, o_i 0 1), (75, o_zret), (76, o_aload 0 1), (77, o_aload 0 1), (78, o_getf 5 1), (81, o_lload 3 1), (82, o_lload 5 2), (84, o_iload 7 2), (86, o_i 1 1), (87, o_icn (fun a b => a = b) 94), (90, o_i 1 1), (91, o_goto 95), (94, o_i 0 1), (95, o_callV (xRun tb_M_putMember 8) 5 4 0 0), (98, o_iinc 2 1), (101, o_goto 2), (104, o_aload 0 1), (105, o_getf 5 22), (108, o_aload 0 1), (109, o_getf 5 13), (112, o_icn (fun a b => a = b) 119), (115, o_i 1 1), (116, o_goto 120), (119, o_i 0 1), (120, o_zret)]
abbrev y_M_readMembers : MethodName := ⟨"NameMoverModel", "readMembers", "(I)Z"⟩
abbrev rm_M_readMembers : Room := { frames := 5, cells := 0, slots := 0, locals := 116 }
abbrev ws_M_readMembers : List Cond := Cond.code y_M_readMembers prog_11_method_57_code 8 (some .boolean) :: xtt
set_option maxRecDepth 100000 in
theorem v_M_readMembers : ∀ q ∈ tb_M_readMembers, xSd (0, 0) x0 xCl "NameMoverModel" ws_M_readMembers prog_11_method_57_code 8 (some .boolean) rm_M_readMembers q :=
  xval (s_iconst (z := 0) (by decide +kernel) (by decide)) (
  xval (s_istore_n (f := 2) (by decide +kernel) rfl (by decide)) (
  xval (s_iload_n (f := 2) (by decide +kernel) rfl) (
  xval (s_iload_n (f := 1) (by decide +kernel) rfl) (
  xval (s_icge (z := 100) (by decide +kernel) (by decide)) (
  xval (s_aload_n (f := 0) (by decide +kernel) rfl) (
  xval (s_aload_n (f := 0) (by decide +kernel) rfl) (
  xval (s_callV (i := 206) c_M_next (by decide +kernel) rfl (xtt_good tw_1044) rfl (tc tw_1041) (tc tw_1043) (tc ts_54) (tc tw_6) ⟨by decide, by decide, by decide +kernel⟩ ⟨by decide, by decide, rfl, rfl, by decide, by decide⟩ x0_e) (
  xval (s_callV (i := 213) c_M_textOf (by decide +kernel) rfl (xtt_good tw_1048) rfl (tc tw_1045) (tc tw_1047) (tc ts_55) (tc tw_6) ⟨by decide, by decide, by decide +kernel⟩ ⟨by decide, by decide, rfl, rfl, by decide, by decide⟩ x0_e) (
  xval (s_lstore_n (f := 3) (by decide +kernel) rfl (by decide)) (
  xval (s_aload_n (f := 0) (by decide +kernel) rfl) (
  xval (s_aload_n (f := 0) (by decide +kernel) rfl) (
  xval (s_callV (i := 206) c_M_next (by decide +kernel) rfl (xtt_good tw_1044) rfl (tc tw_1041) (tc tw_1043) (tc ts_54) (tc tw_6) ⟨by decide, by decide, by decide +kernel⟩ ⟨by decide, by decide, rfl, rfl, by decide, by decide⟩ x0_e) (
  xval (s_callV (i := 217) c_M_descriptorOf (by decide +kernel) rfl (xtt_good tw_1056) rfl (tc tw_1053) (tc tw_1055) (tc ts_57) (tc tw_6) ⟨by decide, by decide, by decide +kernel⟩ ⟨by decide, by decide, rfl, rfl, by decide, by decide⟩ x0_e) (
  xval (s_lstore (by decide +kernel) (by decide)) (
  xval (s_aload_n (f := 0) (by decide +kernel) rfl) (
  xval (s_callV (i := 206) c_M_next (by decide +kernel) rfl (xtt_good tw_1044) rfl (tc tw_1041) (tc tw_1043) (tc ts_54) (tc tw_6) ⟨by decide, by decide, by decide +kernel⟩ ⟨by decide, by decide, rfl, rfl, by decide, by decide⟩ x0_e) (
  xval (s_istore (by decide +kernel) (by decide)) (
  xval (s_lload_n (f := 3) (by decide +kernel) rfl) (
  xval (s_iconst (z := 1) (by decide +kernel) (by decide)) (
  xval (s_callS (i := 109) c_M_isName (by decide +kernel) rfl (xtt_good tw_846) (tc tw_844) (tc tw_845) (tc tw_6) ⟨by decide, by decide, by decide +kernel⟩ ⟨by decide, by decide, rfl, rfl, by decide, by decide⟩ x0_e) (
  xval (s_ifeq (z := 37) (by decide +kernel) (by decide)) (
  xval (s_aload_n (f := 0) (by decide +kernel) rfl) (
  xval (s_lload (by decide +kernel)) (
  xval (s_callV (i := 220) c_M_isDescriptorOfFile (by decide +kernel) rfl (xtt_good tw_1064) rfl (tc tw_1061) (tc tw_1063) (tc ts_59) (tc tw_6) ⟨by decide, by decide, by decide +kernel⟩ ⟨by decide, by decide, rfl, rfl, by decide, by decide⟩ x0_e) (
  xval (s_ifeq (z := 28) (by decide +kernel) (by decide)) (
  xval (s_iload (by decide +kernel)) (
  xval (s_iflt (z := 23) (by decide +kernel) (by decide)) (
  xval (s_iload (by decide +kernel)) (
  xval (s_iconst (z := 1) (by decide +kernel) (by decide)) (
  xval (s_icgt (z := 17) (by decide +kernel) (by decide)) (
  xval (s_aload_n (f := 0) (by decide +kernel) rfl) (
  xval (s_aload_n (f := 0) (by decide +kernel) rfl) (
  xval (s_getf (i := 99) (by decide +kernel) rfl tin_M (by decide) (tc tw_767)) (
  xval (s_lload_n (f := 3) (by decide +kernel) rfl) (
  xval (s_lload (by decide +kernel)) (
  xval (s_callV (i := 127) c_M_has (by decide +kernel) rfl (xtt_good tw_894) rfl (tc tw_891) (tc tw_893) (tc ts_34) (tc tw_6) ⟨by decide, by decide, by decide +kernel⟩ ⟨by decide, by decide, rfl, rfl, by decide, by decide⟩ x0_e) (
  xval (s_iflt (z := 5) (by decide +kernel) (by decide)) (
  xval (s_iconst (z := 0) (by decide +kernel) (by decide)) (
  xval (s_zret (by decide +kernel)) (
  xval (s_aload_n (f := 0) (by decide +kernel) rfl) (
  xval (s_aload_n (f := 0) (by decide +kernel) rfl) (
  xval (s_getf (i := 99) (by decide +kernel) rfl tin_M (by decide) (tc tw_767)) (
  xval (s_lload_n (f := 3) (by decide +kernel) rfl) (
  xval (s_lload (by decide +kernel)) (
  xval (s_iload (by decide +kernel)) (
  xval (s_iconst (z := 1) (by decide +kernel) (by decide)) (
  xval (s_icne (z := 7) (by decide +kernel) (by decide)) (
  xval (s_iconst (z := 1) (by decide +kernel) (by decide)) (
  xval (s_goto (z := 4) (by decide +kernel) (by decide)) (
  xval (s_iconst (z := 0) (by decide +kernel) (by decide)) (
  xval (s_callV (i := 131) c_M_putMember (by decide +kernel) rfl (xtt_good tw_898) rfl (tc tw_895) (tc tw_897) (tc ts_35) (tc tw_6) ⟨by decide, by decide, by decide +kernel⟩ ⟨by decide, by decide, rfl, rfl, by decide, by decide⟩ x0_e) (
  xval (s_iinc (z := 1) (by decide +kernel) (by decide) (by decide)) (
  xval (s_goto (z := (-99)) (by decide +kernel) (by decide)) (
  xval (s_aload_n (f := 0) (by decide +kernel) rfl) (
  xval (s_getf (i := 92) (by decide +kernel) rfl tin_M (by decide) (tc tw_788)) (
  xval (s_aload_n (f := 0) (by decide +kernel) rfl) (
  xval (s_getf (i := 203) (by decide +kernel) rfl tin_M (by decide) (tc tw_779)) (
  xval (s_icne (z := 7) (by decide +kernel) (by decide)) (
  xval (s_iconst (z := 1) (by decide +kernel) (by decide)) (
  xval (s_goto (z := 4) (by decide +kernel) (by decide)) (
  xval (s_iconst (z := 0) (by decide +kernel) (by decide)) (
  xval (s_zret (by decide +kernel)) (
  xval_nil)))))))))))))))))))))))))))))))))))))))))))))))))))))))))))))))
theorem c_M_readMembers : xMet xCl y_M_readMembers ws_M_readMembers rm_M_readMembers (xRun tb_M_readMembers 8) := xMet.of (by decide) rfl v_M_readMembers
def tb_M_readClass : xT := [(0, o_aload 0 1), (1, o_callV (xRun tb_M_readPool 4) 5 0 0 0), (4, o_ifn (fun a => a = 0) 9), (7, o_i 0 1), (8, o_zret), (9, o_aload 0 1), (10, o_aload 0 1), (11, o_callV (xRun tb_M_next 1) 5 0 0 0), (14, o_callV (xRun tb_M_textOf 5) 5 1 0 0), (17, o_lstore 1 1), (18, o_aload 0 1), (19, o_callV (xRun tb_M_next 1) 5 0 0 0), (22, o_istore 3 1), (23, o_aload 0 1), (24, o_callV (xRun tb_M_next 1) 5 0 0 0), (27, o_istore 4 2), (29, o_aload 0 1), (30, o_callV (xRun tb_M_next 1) 5 0 0 0), (33, o_istore 5 2), (35, o_iload 3 1), (36, o_ifn (fun a => a = 0) 43), (39, o_i (-1) 1), (40, o_goto 52), (43, o_aload 0 1), (44, o_aload 0 1), (45, o_iload 3 1), (46, o_callV (xRun tb_M_textOf 5) 5 1 0 0), (49, o_callV (xRun tb_M_named 5) 5 1 0 0), (52, o_istore 6 2), (54, o_lload 1 1), (55, o_i 0 1), (56, o_call (xRun tb_M_isName 8) 2 0 0), (59, o_if (fun a => a = 0) 106), (62, o_aload 0 1), (63, o_lload 1 1), (64, o_callV (xRun tb_M_named 5) 5 1 0 0), (67, o_if (fun a => 0 ≤ a) 106), (70, o_iload 3 1), (71, o_if (fun a => a = 0) 79), (74, o_iload 6 2), (76, o_if (fun a => a < 0) 106), (79, o_iload 4 2), (81, o_if (fun a => a < 0) 106), (84, o_iload 4 2), (86, o_i 1 1), (87, o_ic (fun a b => b < a) 106), (90, o_iload 5 2), (92, o_if (fun a => a < 0) 106), (95, o_iload 5 2), (97, o_i 6 2), (99, o_ic (fun a b => b < a) 106), (102, o_i 1 1), (103, o_goto 107), (106, o_i 0 1), (107, o_istore 7 2), (109, o_iload 7 2), (111, o_ifn (fun a => a = 0) 116), (114, o_i 0 1), (115, o_zret), (116, o_aload 0 1), (117, o_lload 1 1), (118, o_iload 6 2), (120, o_iload 4 2), (122, o_i 1 1), (123, o_icn (fun a b => a = b) 130), (126, o_i 1 1), (127, o_goto 131), (130, o_i 0 1), (131, o_callV (xRun tb_M_put 5) 5 3 0 0), (134, o_aload 0 1), (135, o_iload 5 2), (137, o_callV (xRun tb_M_readMembers 8) 5 1 0 0), (140, o_zret)]
abbrev y_M_readClass : MethodName := ⟨"NameMoverModel", "readClass", "()Z"⟩
abbrev rm_M_readClass : Room := { frames := 6, cells := 0, slots := 0, locals := 143 }
abbrev ws_M_readClass : List Cond := Cond.code y_M_readClass prog_11_method_59_code 8 (some .boolean) :: xtt
set_option maxRecDepth 100000 in
theorem v_M_readClass : ∀ q ∈ tb_M_readClass, xSd (0, 0) x0 xCl "NameMoverModel" ws_M_readClass prog_11_method_59_code 8 (some .boolean) rm_M_readClass q :=
  xval (s_aload_n (f := 0) (by decide +kernel) rfl) (
  xval (s_callV (i := 223) c_M_readPool (by decide +kernel) rfl (xtt_good tw_1040) rfl (tc tw_1037) (tc tw_1039) (tc ts_53) (tc tw_6) ⟨by decide, by decide, by decide +kernel⟩ ⟨by decide, by decide, rfl, rfl, by decide, by decide⟩ x0_e) (
  xval (s_ifne (z := 5) (by decide +kernel) (by decide)) (
  xval (s_iconst (z := 0) (by decide +kernel) (by decide)) (
  xval (s_zret (by decide +kernel)) (
  xval (s_aload_n (f := 0) (by decide +kernel) rfl) (
  xval (s_aload_n (f := 0) (by decide +kernel) rfl) (
  xval (s_callV (i := 206) c_M_next (by decide +kernel) rfl (xtt_good tw_1044) rfl (tc tw_1041) (tc tw_1043) (tc ts_54) (tc tw_6) ⟨by decide, by decide, by decide +kernel⟩ ⟨by decide, by decide, rfl, rfl, by decide, by decide⟩ x0_e) (
  xval (s_callV (i := 213) c_M_textOf (by decide +kernel) rfl (xtt_good tw_1048) rfl (tc tw_1045) (tc tw_1047) (tc ts_55) (tc tw_6) ⟨by decide, by decide, by decide +kernel⟩ ⟨by decide, by decide, rfl, rfl, by decide, by decide⟩ x0_e) (
  xval (s_lstore_n (f := 1) (by decide +kernel) rfl (by decide)) (
  xval (s_aload_n (f := 0) (by decide +kernel) rfl) (
  xval (s_callV (i := 206) c_M_next (by decide +kernel) rfl (xtt_good tw_1044) rfl (tc tw_1041) (tc tw_1043) (tc ts_54) (tc tw_6) ⟨by decide, by decide, by decide +kernel⟩ ⟨by decide, by decide, rfl, rfl, by decide, by decide⟩ x0_e) (
  xval (s_istore_n (f := 3) (by decide +kernel) rfl (by decide)) (
  xval (s_aload_n (f := 0) (by decide +kernel) rfl) (
  xval (s_callV (i := 206) c_M_next (by decide +kernel) rfl (xtt_good tw_1044) rfl (tc tw_1041) (tc tw_1043) (tc ts_54) (tc tw_6) ⟨by decide, by decide, by decide +kernel⟩ ⟨by decide, by decide, rfl, rfl, by decide, by decide⟩ x0_e) (
  xval (s_istore (by decide +kernel) (by decide)) (
  xval (s_aload_n (f := 0) (by decide +kernel) rfl) (
  xval (s_callV (i := 206) c_M_next (by decide +kernel) rfl (xtt_good tw_1044) rfl (tc tw_1041) (tc tw_1043) (tc ts_54) (tc tw_6) ⟨by decide, by decide, by decide +kernel⟩ ⟨by decide, by decide, rfl, rfl, by decide, by decide⟩ x0_e) (
  xval (s_istore (by decide +kernel) (by decide)) (
  xval (s_iload_n (f := 3) (by decide +kernel) rfl) (
  xval (s_ifne (z := 7) (by decide +kernel) (by decide)) (
  xval (s_iconst (z := (-1)) (by decide +kernel) (by decide)) (
  xval (s_goto (z := 12) (by decide +kernel) (by decide)) (
  xval (s_aload_n (f := 0) (by decide +kernel) rfl) (
  xval (s_aload_n (f := 0) (by decide +kernel) rfl) (
  xval (s_iload_n (f := 3) (by decide +kernel) rfl) (
  xval (s_callV (i := 213) c_M_textOf (by decide +kernel) rfl (xtt_good tw_1048) rfl (tc tw_1045) (tc tw_1047) (tc ts_55) (tc tw_6) ⟨by decide, by decide, by decide +kernel⟩ ⟨by decide, by decide, rfl, rfl, by decide, by decide⟩ x0_e) (
  xval (s_callV (i := 117) c_M_named (by decide +kernel) rfl (xtt_good tw_874) rfl (tc tw_871) (tc tw_873) (tc ts_30) (tc tw_6) ⟨by decide, by decide, by decide +kernel⟩ ⟨by decide, by decide, rfl, rfl, by decide, by decide⟩ x0_e) (
  xval (s_istore (by decide +kernel) (by decide)) (
  xval (s_lload_n (f := 1) (by decide +kernel) rfl) (
  xval (s_iconst (z := 0) (by decide +kernel) (by decide)) (
  xval (s_callS (i := 109) c_M_isName (by decide +kernel) rfl (xtt_good tw_846) (tc tw_844) (tc tw_845) (tc tw_6) ⟨by decide, by decide, by decide +kernel⟩ ⟨by decide, by decide, rfl, rfl, by decide, by decide⟩ x0_e) (
  xval (s_ifeq (z := 47) (by decide +kernel) (by decide)) (
  xval (s_aload_n (f := 0) (by decide +kernel) rfl) (
  xval (s_lload_n (f := 1) (by decide +kernel) rfl) (
  xval (s_callV (i := 117) c_M_named (by decide +kernel) rfl (xtt_good tw_874) rfl (tc tw_871) (tc tw_873) (tc ts_30) (tc tw_6) ⟨by decide, by decide, by decide +kernel⟩ ⟨by decide, by decide, rfl, rfl, by decide, by decide⟩ x0_e) (
  xval (s_ifge (z := 39) (by decide +kernel) (by decide)) (
  xval (s_iload_n (f := 3) (by decide +kernel) rfl) (
  xval (s_ifeq (z := 8) (by decide +kernel) (by decide)) (
  xval (s_iload (by decide +kernel)) (
  xval (s_iflt (z := 30) (by decide +kernel) (by decide)) (
  xval (s_iload (by decide +kernel)) (
  xval (s_iflt (z := 25) (by decide +kernel) (by decide)) (
  xval (s_iload (by decide +kernel)) (
  xval (s_iconst (z := 1) (by decide +kernel) (by decide)) (
  xval (s_icgt (z := 19) (by decide +kernel) (by decide)) (
  xval (s_iload (by decide +kernel)) (
  xval (s_iflt (z := 14) (by decide +kernel) (by decide)) (
  xval (s_iload (by decide +kernel)) (
  xval (s_bipush (z := 6) (by decide +kernel) (by decide)) (
  xval (s_icgt (z := 7) (by decide +kernel) (by decide)) (
  xval (s_iconst (z := 1) (by decide +kernel) (by decide)) (
  xval (s_goto (z := 4) (by decide +kernel) (by decide)) (
  xval (s_iconst (z := 0) (by decide +kernel) (by decide)) (
  xval (s_istore (by decide +kernel) (by decide)) (
  xval (s_iload (by decide +kernel)) (
  xval (s_ifne (z := 5) (by decide +kernel) (by decide)) (
  xval (s_iconst (z := 0) (by decide +kernel) (by decide)) (
  xval (s_zret (by decide +kernel)) (
  xval (s_aload_n (f := 0) (by decide +kernel) rfl) (
  xval (s_lload_n (f := 1) (by decide +kernel) rfl) (
  xval (s_iload (by decide +kernel)) (
  xval (s_iload (by decide +kernel)) (
  xval (s_iconst (z := 1) (by decide +kernel) (by decide)) (
  xval (s_icne (z := 7) (by decide +kernel) (by decide)) (
  xval (s_iconst (z := 1) (by decide +kernel) (by decide)) (
  xval (s_goto (z := 4) (by decide +kernel) (by decide)) (
  xval (s_iconst (z := 0) (by decide +kernel) (by decide)) (
  xval (s_callV (i := 120) c_M_put (by decide +kernel) rfl (xtt_good tw_878) rfl (tc tw_875) (tc tw_877) (tc ts_31) (tc tw_6) ⟨by decide, by decide, by decide +kernel⟩ ⟨by decide, by decide, rfl, rfl, by decide, by decide⟩ x0_e) (
  xval (s_aload_n (f := 0) (by decide +kernel) rfl) (
  xval (s_iload (by decide +kernel)) (
  xval (s_callV (i := 227) c_M_readMembers (by decide +kernel) rfl (xtt_good tw_1052) rfl (tc tw_1049) (tc tw_1051) (tc ts_56) (tc tw_6) ⟨by decide, by decide, by decide +kernel⟩ ⟨by decide, by decide, rfl, rfl, by decide, by decide⟩ x0_e) (
  xval (s_zret (by decide +kernel)) (
  xval_nil)))))))))))))))))))))))))))))))))))))))))))))))))))))))))))))))))))))))))
theorem c_M_readClass : xMet xCl y_M_readClass ws_M_readClass rm_M_readClass (xRun tb_M_readClass 8) := xMet.of (by decide) rfl v_M_readClass
end
section
def tb_M_load : xT := [(0, o_aload 0 1), (1, o_aload 0 1), (2, o_callV (xRun tb_M_moves 4) 5 0 0 0), (5, o_if (fun a => 0 < a) 17), (8, o_aload 0 1), (9, o_getf 5 1), (12, o_i 8 2), (14, o_icn (fun a b => a = b) 21), (17, o_i 1 1), (18, o_goto 33), (21, o_aload 0 1), (22, o_callV (xRun tb_M_readClass 8) 5 0 0 0), (25, o_if (fun a => a = 0) 32), (28, o_i 0 1), (29, o_goto 33), (32, o_i 2 1), (33, o_puti 5 0), (36, o_aload 0 1), (37, o_getf 5 0), (40, o_if (fun a => a ≤ 0) 45), (43, o_i 0 1), (44, o_iret), (45, o_aload 0 1), (46, o_aload 0 1), (47, o_getf 5 1), (50, o_callV (xRun tb_M_make 4) 5 1 0 0), (53, o_aload 0 1), (54, o_getf 5 15), (57, o_aload 0 1), (58, o_getf 5 13), (61, o_icn (fun a b => a = b) 68), (64, o_i 1 1), (65, o_goto 69), (68, o_i 0 1), (69, o_istore 1 1), (70, o_i 0 1), (71, o_istore 2 1), (72, o_iload 2 1), (73, o_aload 0 1), (74, o_getf 5 13), (77, o_ic (fun a b => b ≤ a) 111), (80, o_iload 1 1), (81, o_if (fun a => a = 0) 111), (84, o_aload 0 1), (85, o_getf 5 14), (88, o_iload 2 1), (89, o_iaload), (90, o_aload 0 1), (91, o_getf 5 12), (94, o_iload 2 1), (95, o_iaload), (96, o_icn (fun a b => a = b) 103), (99, o_i 1 1), (100, o_goto 104), (103, o_i 0 1), (104, o_istore 1 1), (105, o_iinc 2 1), (108, o_goto 72), (111, o_iload 1 1), (112, o_ifn (fun a => a = 0) 122), (115, o_aload 0 1), (116, o_i 2 1), (117, o_puti 5 0), (120, o_i 0 1), (121, o_iret), (122, o_aload 0 1), (123, o_dup), (124, o_getf 5 1), (127, o_i 1 1), (128, o_ii (fun a b => a + b)), (129, o_puti 5 1), (132, o_aload 0 1), (133, o_getf 5 1), (136, o_i 1 1), (137, o_ii (fun a b => a - b)), (138, o_iret)]
abbrev y_M_load : MethodName := ⟨"NameMoverModel", "load", "()I"⟩
abbrev rm_M_load : Room := { frames := 7, cells := 0, slots := 0, locals := 170 }
abbrev ws_M_load : List Cond := Cond.code y_M_load prog_11_method_60_code 3 (some .int) :: xtt
set_option maxRecDepth 100000 in
theorem v_M_load : ∀ q ∈ tb_M_load, xSd (0, 0) x0 xCl "NameMoverModel" ws_M_load prog_11_method_60_code 3 (some .int) rm_M_load q :=
  xval (s_aload_n (f := 0) (by decide +kernel) rfl) (
  xval (s_aload_n (f := 0) (by decide +kernel) rfl) (
  xval (s_callV (i := 113) c_M_moves (by decide +kernel) rfl (xtt_good tw_870) rfl (tc tw_867) (tc tw_869) (tc ts_29) (tc tw_6) ⟨by decide, by decide, by decide +kernel⟩ ⟨by decide, by decide, rfl, rfl, by decide, by decide⟩ x0_e) (
  xval (s_ifgt (z := 12) (by decide +kernel) (by decide)) (
  xval (s_aload_n (f := 0) (by decide +kernel) rfl) (
  xval (s_getf (i := 99) (by decide +kernel) rfl tin_M (by decide) (tc tw_767)) (
  xval (s_bipush (z := 8) (by decide +kernel) (by decide)) (
  xval (s_icne (z := 7) (by decide +kernel) (by decide)) (
  xval (s_iconst (z := 1) (by decide +kernel) (by decide)) (
  xval (s_goto (z := 15) (by decide +kernel) (by decide)) (
  xval (s_aload_n (f := 0) (by decide +kernel) rfl) (
  xval (s_callV (i := 230) c_M_readClass (by decide +kernel) rfl (xtt_good tw_1036) rfl (tc tw_1033) (tc tw_1035) (tc ts_52) (tc tw_6) ⟨by decide, by decide, by decide +kernel⟩ ⟨by decide, by decide, rfl, rfl, by decide, by decide⟩ x0_e) (
  xval (s_ifeq (z := 7) (by decide +kernel) (by decide)) (
  xval (s_iconst (z := 0) (by decide +kernel) (by decide)) (
  xval (s_goto (z := 4) (by decide +kernel) (by decide)) (
  xval (s_iconst (z := 2) (by decide +kernel) (by decide)) (
  xval (s_puti (i := 60) (by decide +kernel) rfl tin_M (by decide) (tc tw_766) tM tM_ok nM rfl (by decide +kernel)) (
  xval (s_aload_n (f := 0) (by decide +kernel) rfl) (
  xval (s_getf (i := 60) (by decide +kernel) rfl tin_M (by decide) (tc tw_766)) (
  xval (s_ifle (z := 5) (by decide +kernel) (by decide)) (
  xval (s_iconst (z := 0) (by decide +kernel) (by decide)) (
  xval (s_iret (by decide +kernel)) (
  xval (s_aload_n (f := 0) (by decide +kernel) rfl) (
  xval (s_aload_n (f := 0) (by decide +kernel) rfl) (
  xval (s_getf (i := 99) (by decide +kernel) rfl tin_M (by decide) (tc tw_767)) (
  xval (s_callV (i := 200) c_M_make (by decide +kernel) rfl (xtt_good tw_1000) rfl (tc tw_997) (tc tw_999) (tc ts_46) (tc tw_6) ⟨by decide, by decide, by decide +kernel⟩ ⟨by decide, by decide, rfl, rfl, by decide, by decide⟩ x0_e) (
  xval (s_aload_n (f := 0) (by decide +kernel) rfl) (
  xval (s_getf (i := 187) (by decide +kernel) rfl tin_M (by decide) (tc tw_781)) (
  xval (s_aload_n (f := 0) (by decide +kernel) rfl) (
  xval (s_getf (i := 203) (by decide +kernel) rfl tin_M (by decide) (tc tw_779)) (
  xval (s_icne (z := 7) (by decide +kernel) (by decide)) (
  xval (s_iconst (z := 1) (by decide +kernel) (by decide)) (
  xval (s_goto (z := 4) (by decide +kernel) (by decide)) (
  xval (s_iconst (z := 0) (by decide +kernel) (by decide)) (
  xval (s_istore_n (f := 1) (by decide +kernel) rfl (by decide)) (
  xval (s_iconst (z := 0) (by decide +kernel) (by decide)) (
  xval (s_istore_n (f := 2) (by decide +kernel) rfl (by decide)) (
  xval (s_iload_n (f := 2) (by decide +kernel) rfl) (
  xval (s_aload_n (f := 0) (by decide +kernel) rfl) (
  xval (s_getf (i := 203) (by decide +kernel) rfl tin_M (by decide) (tc tw_779)) (
  xval (s_icge (z := 34) (by decide +kernel) (by decide)) (
  xval (s_iload_n (f := 1) (by decide +kernel) rfl) (
  xval (s_ifeq (z := 30) (by decide +kernel) (by decide)) (
  xval (s_aload_n (f := 0) (by decide +kernel) rfl) (
  xval (s_getf (i := 45) (by decide +kernel) rfl tin_M (by decide) (tc tw_780)) (
  xval (s_iload_n (f := 2) (by decide +kernel) rfl) (
  xval (s_iaload (by decide +kernel)) (
  xval (s_aload_n (f := 0) (by decide +kernel) rfl) (
  xval (s_getf (i := 42) (by decide +kernel) rfl tin_M (by decide) (tc tw_778)) (
  xval (s_iload_n (f := 2) (by decide +kernel) rfl) (
  xval (s_iaload (by decide +kernel)) (
  xval (s_icne (z := 7) (by decide +kernel) (by decide)) (
  xval (s_iconst (z := 1) (by decide +kernel) (by decide)) (
  xval (s_goto (z := 4) (by decide +kernel) (by decide)) (
  xval (s_iconst (z := 0) (by decide +kernel) (by decide)) (
  xval (s_istore_n (f := 1) (by decide +kernel) rfl (by decide)) (
  xval (s_iinc (z := 1) (by decide +kernel) (by decide) (by decide)) (
  xval (s_goto (z := (-36)) (by decide +kernel) (by decide)) (
  xval (s_iload_n (f := 1) (by decide +kernel) rfl) (
  xval (s_ifne (z := 10) (by decide +kernel) (by decide)) (
  xval (s_aload_n (f := 0) (by decide +kernel) rfl) (
  xval (s_iconst (z := 2) (by decide +kernel) (by decide)) (
  xval (s_puti (i := 60) (by decide +kernel) rfl tin_M (by decide) (tc tw_766) tM tM_ok nM rfl (by decide +kernel)) (
  xval (s_iconst (z := 0) (by decide +kernel) (by decide)) (
  xval (s_iret (by decide +kernel)) (
  xval (s_aload_n (f := 0) (by decide +kernel) rfl) (
  xval (s_dup (by decide +kernel)) (
  xval (s_getf (i := 99) (by decide +kernel) rfl tin_M (by decide) (tc tw_767)) (
  xval (s_iconst (z := 1) (by decide +kernel) (by decide)) (
  xval (s_iadd (by decide +kernel)) (
  xval (s_puti (i := 99) (by decide +kernel) rfl tin_M (by decide) (tc tw_767) tM tM_ok nM rfl (by decide +kernel)) (
  xval (s_aload_n (f := 0) (by decide +kernel) rfl) (
  xval (s_getf (i := 99) (by decide +kernel) rfl tin_M (by decide) (tc tw_767)) (
  xval (s_iconst (z := 1) (by decide +kernel) (by decide)) (
  xval (s_isub (by decide +kernel)) (
  xval (s_iret (by decide +kernel)) (
  xval_nil))))))))))))))))))))))))))))))))))))))))))))))))))))))))))))))))))))))))))))
theorem c_M_load : xMet xCl y_M_load ws_M_load rm_M_load (xRun tb_M_load 3) := xMet.of (by decide) rfl v_M_load
end
section
def hs_L_declare : Nat → Option Int32 := fun Z => match Z with
  | 0 => some 1
  | 1 => some 2
  | 2 => some 3
  | 3 => none
  | _ => none
def tb_L_declare : xT := [(0, o_aload 5 2), (2, o_i 0 1), (3, o_aload 0 1), (4, o_lload 1 1), (5, o_iload 3 1), (6, o_iload 4 2), (8, o_callH (xRun tb_N_declare 5) 0 3 1 1 hs_L_declare), (11, o_i2l), (12, o_lastore), (13, o_goto 28), (28, o_i 0 1), (29, o_iret)]
abbrev y_L_declare : MethodName := ⟨"NameMoverLaw", "declare", "(LNameMover;JIZ[J)I"⟩
abbrev rm_L_declare : Room := { frames := 7, cells := 1, slots := 6, locals := 130 }
abbrev ws_L_declare : List Cond := Cond.codeWith y_L_declare method_3_code 7 (some .int) [(0, 13, 16, 13), (0, 13, 20, 15), (0, 13, 24, 17)] :: xtt
set_option maxRecDepth 100000 in
theorem hh_L_declare : ∀ Z v, hs_L_declare Z = some v → xHand "NameMoverLaw" ws_L_declare method_3_code 7 8 [(0, 13, 16, 13), (0, 13, 20, 15), (0, 13, 24, 17)] Z v := fun Z v h => by
  match Z, h with
  | 0, h => cases h; exact ⟨[], (0, 13, 16, 13), [(0, 13, 20, 15), (0, 13, 24, 17)], rfl, ⟨by decide, by decide⟩, by decide, tc tw_260, tc tw_281, (fun _ q => absurd q List.not_mem_nil), 1, by decide, Or.inl ⟨6, by decide, (by decide +kernel), (by decide +kernel), (by decide +kernel)⟩⟩
  | 1, h => cases h; exact ⟨[(0, 13, 16, 13)], (0, 13, 20, 15), [(0, 13, 24, 17)], rfl, ⟨by decide, by decide⟩, by decide, tc tw_261, tc tw_351, (List.forall_mem_cons.mpr ⟨⟨⟨by decide, by decide⟩, by decide, 0, tc tw_260, List.mem_of_getElem? (i := 3) rfl⟩, (fun _ q => absurd q List.not_mem_nil)⟩), 2, by decide, Or.inl ⟨6, by decide, (by decide +kernel), (by decide +kernel), (by decide +kernel)⟩⟩
  | 2, h => cases h; exact ⟨[(0, 13, 16, 13), (0, 13, 20, 15)], (0, 13, 24, 17), [], rfl, ⟨by decide, by decide⟩, by decide, tc tw_262, tc tw_380, (List.forall_mem_cons.mpr ⟨⟨⟨by decide, by decide⟩, by decide, 0, tc tw_260, List.mem_of_getElem? (i := 6) rfl⟩, (List.forall_mem_cons.mpr ⟨⟨⟨by decide, by decide⟩, by decide, 1, tc tw_261, List.mem_of_getElem? (i := 7) rfl⟩, (fun _ q => absurd q List.not_mem_nil)⟩)⟩), 3, by decide, Or.inl ⟨6, by decide, (by decide +kernel), (by decide +kernel), (by decide +kernel)⟩⟩
  | 3, h => cases h
  | (_ + 4), h => cases h
set_option maxRecDepth 100000 in
theorem v_L_declare : ∀ q ∈ tb_L_declare, xSd (0, 0) (xEh [(0, 13, 16, 13), (0, 13, 20, 15), (0, 13, 24, 17)]) xCl "NameMoverLaw" ws_L_declare method_3_code 7 (some .int) rm_L_declare q :=
  xval (s_aload (by decide +kernel)) (
  xval (s_iconst (z := 0) (by decide +kernel) (by decide)) (
  xval (s_aload_n (f := 0) (by decide +kernel) rfl) (
  xval (s_lload_n (f := 1) (by decide +kernel) rfl) (
  xval (s_iload_n (f := 3) (by decide +kernel) rfl) (
  xval (s_iload (by decide +kernel)) (
  xval (s_callH (i := 7) c_N_declare (by decide +kernel) rfl (xtt_good tw_266) rfl (tc tw_263) (tc tw_264) (tc tw_265) (tc tw_1) ⟨by decide, by decide, by decide +kernel⟩ ⟨by decide, by decide, rfl, rfl, by decide, by decide⟩ hh_L_declare) (
  xval (s_i2l (by decide +kernel)) (
  xval (s_lastore (by decide +kernel)) (
  xval (s_goto (z := 15) (by decide +kernel) (by decide)) (
  xval (s_iconst (z := 0) (by decide +kernel) (by decide)) (
  xval (s_iret (by decide +kernel)) (
  xval_nil))))))))))))
theorem c_L_declare : xMet xCl y_L_declare ws_L_declare rm_L_declare (xRun tb_L_declare 7) := xMet.ofW (by decide) rfl v_L_declare
def hs_L_member : Nat → Option Int32 := fun Z => match Z with
  | 0 => some 2
  | 1 => some 1
  | 2 => some 3
  | 3 => none
  | _ => none
def tb_L_member : xT := [(0, o_aload 7 2), (2, o_i 0 1), (3, o_aload 0 1), (4, o_iload 1 1), (5, o_lload 2 1), (6, o_lload 4 2), (8, o_iload 6 2), (10, o_callH (xRun tb_N_member 7) 0 4 1 1 hs_L_member), (13, o_i2l), (14, o_lastore), (15, o_goto 30), (30, o_i 0 1), (31, o_iret)]
abbrev y_L_member : MethodName := ⟨"NameMoverLaw", "member", "(LNameMover;IJJZ[J)I"⟩
abbrev rm_L_member : Room := { frames := 8, cells := 1, slots := 6, locals := 132 }
abbrev ws_L_member : List Cond := Cond.codeWith y_L_member method_4_code 9 (some .int) [(0, 15, 18, 15), (0, 15, 22, 13), (0, 15, 26, 17)] :: xtt
set_option maxRecDepth 100000 in
theorem hh_L_member : ∀ Z v, hs_L_member Z = some v → xHand "NameMoverLaw" ws_L_member method_4_code 9 10 [(0, 15, 18, 15), (0, 15, 22, 13), (0, 15, 26, 17)] Z v := fun Z v h => by
  match Z, h with
  | 0, h => cases h; exact ⟨[(0, 15, 18, 15)], (0, 15, 22, 13), [(0, 15, 26, 17)], rfl, ⟨by decide, by decide⟩, by decide, tc tw_260, tc tw_281, (List.forall_mem_cons.mpr ⟨⟨⟨by decide, by decide⟩, by decide, 1, tc tw_261, List.mem_of_getElem? (i := 0) rfl⟩, (fun _ q => absurd q List.not_mem_nil)⟩), 2, by decide, Or.inl ⟨8, by decide, (by decide +kernel), (by decide +kernel), (by decide +kernel)⟩⟩
  | 1, h => cases h; exact ⟨[], (0, 15, 18, 15), [(0, 15, 22, 13), (0, 15, 26, 17)], rfl, ⟨by decide, by decide⟩, by decide, tc tw_261, tc tw_351, (fun _ q => absurd q List.not_mem_nil), 1, by decide, Or.inl ⟨8, by decide, (by decide +kernel), (by decide +kernel), (by decide +kernel)⟩⟩
  | 2, h => cases h; exact ⟨[(0, 15, 18, 15), (0, 15, 22, 13)], (0, 15, 26, 17), [], rfl, ⟨by decide, by decide⟩, by decide, tc tw_262, tc tw_380, (List.forall_mem_cons.mpr ⟨⟨⟨by decide, by decide⟩, by decide, 1, tc tw_261, List.mem_of_getElem? (i := 7) rfl⟩, (List.forall_mem_cons.mpr ⟨⟨⟨by decide, by decide⟩, by decide, 0, tc tw_260, List.mem_of_getElem? (i := 6) rfl⟩, (fun _ q => absurd q List.not_mem_nil)⟩)⟩), 3, by decide, Or.inl ⟨8, by decide, (by decide +kernel), (by decide +kernel), (by decide +kernel)⟩⟩
  | 3, h => cases h
  | (_ + 4), h => cases h
set_option maxRecDepth 100000 in
theorem v_L_member : ∀ q ∈ tb_L_member, xSd (0, 0) (xEh [(0, 15, 18, 15), (0, 15, 22, 13), (0, 15, 26, 17)]) xCl "NameMoverLaw" ws_L_member method_4_code 9 (some .int) rm_L_member q :=
  xval (s_aload (by decide +kernel)) (
  xval (s_iconst (z := 0) (by decide +kernel) (by decide)) (
  xval (s_aload_n (f := 0) (by decide +kernel) rfl) (
  xval (s_iload_n (f := 1) (by decide +kernel) rfl) (
  xval (s_lload_n (f := 2) (by decide +kernel) rfl) (
  xval (s_lload (by decide +kernel)) (
  xval (s_iload (by decide +kernel)) (
  xval (s_callH (i := 19) c_N_member (by decide +kernel) rfl (xtt_good tw_408) rfl (tc tw_405) (tc tw_406) (tc tw_407) (tc tw_1) ⟨by decide, by decide, by decide +kernel⟩ ⟨by decide, by decide, rfl, rfl, by decide, by decide⟩ hh_L_member) (
  xval (s_i2l (by decide +kernel)) (
  xval (s_lastore (by decide +kernel)) (
  xval (s_goto (z := 15) (by decide +kernel) (by decide)) (
  xval (s_iconst (z := 0) (by decide +kernel) (by decide)) (
  xval (s_iret (by decide +kernel)) (
  xval_nil)))))))))))))
theorem c_L_member : xMet xCl y_L_member ws_L_member rm_L_member (xRun tb_L_member 9) := xMet.ofW (by decide) rfl v_L_member
def hs_L_moveClass : Nat → Option Int32 := fun Z => match Z with
  | 0 => some 2
  | 1 => some 1
  | 2 => none
  | 3 => none
  | _ => none
def tb_L_moveClass : xT := [(0, o_aload 0 1), (1, o_iload 1 1), (2, o_lload 2 1), (3, o_callH (xRun tb_N_moveClass 4) 0 2 1 1 hs_L_moveClass), (6, o_goto 17), (17, o_i 0 1), (18, o_iret)]
abbrev y_L_moveClass : MethodName := ⟨"NameMoverLaw", "moveClass", "(LNameMover;IJ)I"⟩
abbrev rm_L_moveClass : Room := { frames := 8, cells := 1, slots := 6, locals := 126 }
abbrev ws_L_moveClass : List Cond := Cond.codeWith y_L_moveClass method_5_code 5 (some .int) [(0, 6, 9, 15), (0, 6, 13, 13)] :: xtt
set_option maxRecDepth 100000 in
theorem hh_L_moveClass : ∀ Z v, hs_L_moveClass Z = some v → xHand "NameMoverLaw" ws_L_moveClass method_5_code 5 3 [(0, 6, 9, 15), (0, 6, 13, 13)] Z v := fun Z v h => by
  match Z, h with
  | 0, h => cases h; exact ⟨[(0, 6, 9, 15)], (0, 6, 13, 13), [], rfl, ⟨by decide, by decide⟩, by decide, tc tw_260, tc tw_281, (List.forall_mem_cons.mpr ⟨⟨⟨by decide, by decide⟩, by decide, 1, tc tw_261, List.mem_of_getElem? (i := 0) rfl⟩, (fun _ q => absurd q List.not_mem_nil)⟩), 2, by decide, Or.inl ⟨4, by decide, (by decide +kernel), (by decide +kernel), (by decide +kernel)⟩⟩
  | 1, h => cases h; exact ⟨[], (0, 6, 9, 15), [(0, 6, 13, 13)], rfl, ⟨by decide, by decide⟩, by decide, tc tw_261, tc tw_351, (fun _ q => absurd q List.not_mem_nil), 1, by decide, Or.inl ⟨4, by decide, (by decide +kernel), (by decide +kernel), (by decide +kernel)⟩⟩
  | 2, h => cases h
  | 3, h => cases h
  | (_ + 4), h => cases h
set_option maxRecDepth 100000 in
theorem v_L_moveClass : ∀ q ∈ tb_L_moveClass, xSd (0, 0) (xEh [(0, 6, 9, 15), (0, 6, 13, 13)]) xCl "NameMoverLaw" ws_L_moveClass method_5_code 5 (some .int) rm_L_moveClass q :=
  xval (s_aload_n (f := 0) (by decide +kernel) rfl) (
  xval (s_iload_n (f := 1) (by decide +kernel) rfl) (
  xval (s_lload_n (f := 2) (by decide +kernel) rfl) (
  xval (s_callH (i := 23) c_N_moveClass (by decide +kernel) rfl (xtt_good tw_458) rfl (tc tw_455) (tc tw_456) (tc tw_457) (tc tw_1) ⟨by decide, by decide, by decide +kernel⟩ ⟨by decide, by decide, rfl, rfl, by decide, by decide⟩ hh_L_moveClass) (
  xval (s_goto (z := 11) (by decide +kernel) (by decide)) (
  xval (s_iconst (z := 0) (by decide +kernel) (by decide)) (
  xval (s_iret (by decide +kernel)) (
  xval_nil)))))))
theorem c_L_moveClass : xMet xCl y_L_moveClass ws_L_moveClass rm_L_moveClass (xRun tb_L_moveClass 5) := xMet.ofW (by decide) rfl v_L_moveClass
def hs_L_movePackage : Nat → Option Int32 := fun Z => match Z with
  | 0 => some 1
  | 1 => none
  | 2 => none
  | 3 => none
  | _ => none
def tb_L_movePackage : xT := [(0, o_aload 5 2), (2, o_i 0 1), (3, o_aload 0 1), (4, o_lload 1 1), (5, o_lload 3 1), (6, o_callH (xRun tb_N_movePackage 5) 0 2 1 1 hs_L_movePackage), (9, o_i2l), (10, o_lastore), (11, o_goto 18), (18, o_i 0 1), (19, o_iret)]
abbrev y_L_movePackage : MethodName := ⟨"NameMoverLaw", "movePackage", "(LNameMover;JJ[J)I"⟩
abbrev rm_L_movePackage : Room := { frames := 7, cells := 1, slots := 6, locals := 142 }
abbrev ws_L_movePackage : List Cond := Cond.codeWith y_L_movePackage method_6_code 7 (some .int) [(0, 11, 14, 13)] :: xtt
set_option maxRecDepth 100000 in
theorem hh_L_movePackage : ∀ Z v, hs_L_movePackage Z = some v → xHand "NameMoverLaw" ws_L_movePackage method_6_code 7 6 [(0, 11, 14, 13)] Z v := fun Z v h => by
  match Z, h with
  | 0, h => cases h; exact ⟨[], (0, 11, 14, 13), [], rfl, ⟨by decide, by decide⟩, by decide, tc tw_260, tc tw_281, (fun _ q => absurd q List.not_mem_nil), 1, by decide, Or.inl ⟨6, by decide, (by decide +kernel), (by decide +kernel), (by decide +kernel)⟩⟩
  | 1, h => cases h
  | 2, h => cases h
  | 3, h => cases h
  | (_ + 4), h => cases h
set_option maxRecDepth 100000 in
theorem v_L_movePackage : ∀ q ∈ tb_L_movePackage, xSd (0, 0) (xEh [(0, 11, 14, 13)]) xCl "NameMoverLaw" ws_L_movePackage method_6_code 7 (some .int) rm_L_movePackage q :=
  xval (s_aload (by decide +kernel)) (
  xval (s_iconst (z := 0) (by decide +kernel) (by decide)) (
  xval (s_aload_n (f := 0) (by decide +kernel) rfl) (
  xval (s_lload_n (f := 1) (by decide +kernel) rfl) (
  xval (s_lload_n (f := 3) (by decide +kernel) rfl) (
  xval (s_callH (i := 27) c_N_movePackage (by decide +kernel) rfl (xtt_good tw_465) rfl (tc tw_462) (tc tw_463) (tc tw_464) (tc tw_1) ⟨by decide, by decide, by decide +kernel⟩ ⟨by decide, by decide, rfl, rfl, by decide, by decide⟩ hh_L_movePackage) (
  xval (s_i2l (by decide +kernel)) (
  xval (s_lastore (by decide +kernel)) (
  xval (s_goto (z := 7) (by decide +kernel) (by decide)) (
  xval (s_iconst (z := 0) (by decide +kernel) (by decide)) (
  xval (s_iret (by decide +kernel)) (
  xval_nil)))))))))))
theorem c_L_movePackage : xMet xCl y_L_movePackage ws_L_movePackage rm_L_movePackage (xRun tb_L_movePackage 7) := xMet.ofW (by decide) rfl v_L_movePackage
def hs_L_moveMember : Nat → Option Int32 := fun Z => match Z with
  | 0 => some 2
  | 1 => some 1
  | 2 => none
  | 3 => none
  | _ => none
def tb_L_moveMember : xT := [(0, o_aload 5 2), (2, o_i 0 1), (3, o_aload 0 1), (4, o_iload 1 1), (5, o_iload 2 1), (6, o_lload 3 1), (7, o_callH (xRun tb_N_moveMember 5) 0 3 1 1 hs_L_moveMember), (10, o_i2l), (11, o_lastore), (12, o_goto 23), (23, o_i 0 1), (24, o_iret)]
abbrev y_L_moveMember : MethodName := ⟨"NameMoverLaw", "moveMember", "(LNameMover;IIJ[J)I"⟩
abbrev rm_L_moveMember : Room := { frames := 8, cells := 1, slots := 6, locals := 159 }
abbrev ws_L_moveMember : List Cond := Cond.codeWith y_L_moveMember method_7_code 7 (some .int) [(0, 12, 15, 15), (0, 12, 19, 13)] :: xtt
set_option maxRecDepth 100000 in
theorem hh_L_moveMember : ∀ Z v, hs_L_moveMember Z = some v → xHand "NameMoverLaw" ws_L_moveMember method_7_code 7 7 [(0, 12, 15, 15), (0, 12, 19, 13)] Z v := fun Z v h => by
  match Z, h with
  | 0, h => cases h; exact ⟨[(0, 12, 15, 15)], (0, 12, 19, 13), [], rfl, ⟨by decide, by decide⟩, by decide, tc tw_260, tc tw_281, (List.forall_mem_cons.mpr ⟨⟨⟨by decide, by decide⟩, by decide, 1, tc tw_261, List.mem_of_getElem? (i := 0) rfl⟩, (fun _ q => absurd q List.not_mem_nil)⟩), 2, by decide, Or.inl ⟨6, by decide, (by decide +kernel), (by decide +kernel), (by decide +kernel)⟩⟩
  | 1, h => cases h; exact ⟨[], (0, 12, 15, 15), [(0, 12, 19, 13)], rfl, ⟨by decide, by decide⟩, by decide, tc tw_261, tc tw_351, (fun _ q => absurd q List.not_mem_nil), 1, by decide, Or.inl ⟨6, by decide, (by decide +kernel), (by decide +kernel), (by decide +kernel)⟩⟩
  | 2, h => cases h
  | 3, h => cases h
  | (_ + 4), h => cases h
set_option maxRecDepth 100000 in
theorem v_L_moveMember : ∀ q ∈ tb_L_moveMember, xSd (0, 0) (xEh [(0, 12, 15, 15), (0, 12, 19, 13)]) xCl "NameMoverLaw" ws_L_moveMember method_7_code 7 (some .int) rm_L_moveMember q :=
  xval (s_aload (by decide +kernel)) (
  xval (s_iconst (z := 0) (by decide +kernel) (by decide)) (
  xval (s_aload_n (f := 0) (by decide +kernel) rfl) (
  xval (s_iload_n (f := 1) (by decide +kernel) rfl) (
  xval (s_iload_n (f := 2) (by decide +kernel) rfl) (
  xval (s_lload_n (f := 3) (by decide +kernel) rfl) (
  xval (s_callH (i := 31) c_N_moveMember (by decide +kernel) rfl (xtt_good tw_498) rfl (tc tw_495) (tc tw_496) (tc tw_497) (tc tw_1) ⟨by decide, by decide, by decide +kernel⟩ ⟨by decide, by decide, rfl, rfl, by decide, by decide⟩ hh_L_moveMember) (
  xval (s_i2l (by decide +kernel)) (
  xval (s_lastore (by decide +kernel)) (
  xval (s_goto (z := 11) (by decide +kernel) (by decide)) (
  xval (s_iconst (z := 0) (by decide +kernel) (by decide)) (
  xval (s_iret (by decide +kernel)) (
  xval_nil))))))))))))
theorem c_L_moveMember : xMet xCl y_L_moveMember ws_L_moveMember rm_L_moveMember (xRun tb_L_moveMember 7) := xMet.ofW (by decide) rfl v_L_moveMember
def hs_L_apply : Nat → Option Int32 := fun Z => match Z with
  | 0 => none
  | 1 => none
  | 2 => some 1
  | 3 => none
  | _ => none
def tb_L_apply : xT := [(0, o_aload 1 1), (1, o_i 0 1), (2, o_aload 0 1), (3, o_callH (xRun tb_N_apply 2) 0 0 1 1 hs_L_apply), (6, o_i2l), (7, o_lastore), (8, o_goto 14), (14, o_i 0 1), (15, o_iret)]
abbrev y_L_apply : MethodName := ⟨"NameMoverLaw", "apply", "(LNameMover;[J)I"⟩
abbrev rm_L_apply : Room := { frames := 7, cells := 1, slots := 6, locals := 153 }
abbrev ws_L_apply : List Cond := Cond.codeWith y_L_apply method_8_code 3 (some .int) [(0, 8, 11, 17)] :: xtt
set_option maxRecDepth 100000 in
theorem hh_L_apply : ∀ Z v, hs_L_apply Z = some v → xHand "NameMoverLaw" ws_L_apply method_8_code 3 3 [(0, 8, 11, 17)] Z v := fun Z v h => by
  match Z, h with
  | 0, h => cases h
  | 1, h => cases h
  | 2, h => cases h; exact ⟨[], (0, 8, 11, 17), [], rfl, ⟨by decide, by decide⟩, by decide, tc tw_262, tc tw_380, (fun _ q => absurd q List.not_mem_nil), 1, by decide, Or.inr ⟨2, by decide, (by decide +kernel), (by decide +kernel), (by decide +kernel)⟩⟩
  | 3, h => cases h
  | (_ + 4), h => cases h
set_option maxRecDepth 100000 in
theorem v_L_apply : ∀ q ∈ tb_L_apply, xSd (0, 0) (xEh [(0, 8, 11, 17)]) xCl "NameMoverLaw" ws_L_apply method_8_code 3 (some .int) rm_L_apply q :=
  xval (s_aload_n (f := 1) (by decide +kernel) rfl) (
  xval (s_iconst (z := 0) (by decide +kernel) (by decide)) (
  xval (s_aload_n (f := 0) (by decide +kernel) rfl) (
  xval (s_callH (i := 35) c_N_apply (by decide +kernel) rfl (xtt_good tw_531) rfl (tc tw_528) (tc tw_529) (tc tw_530) (tc tw_1) ⟨by decide, by decide, by decide +kernel⟩ ⟨by decide, by decide, rfl, rfl, by decide, by decide⟩ hh_L_apply) (
  xval (s_i2l (by decide +kernel)) (
  xval (s_lastore (by decide +kernel)) (
  xval (s_goto (z := 6) (by decide +kernel) (by decide)) (
  xval (s_iconst (z := 0) (by decide +kernel) (by decide)) (
  xval (s_iret (by decide +kernel)) (
  xval_nil)))))))))
theorem c_L_apply : xMet xCl y_L_apply ws_L_apply rm_L_apply (xRun tb_L_apply 3) := xMet.ofW (by decide) rfl v_L_apply
def hs_L_className : Nat → Option Int32 := fun Z => match Z with
  | 0 => none
  | 1 => some 1
  | 2 => none
  | 3 => none
  | _ => none
def tb_L_className : xT := [(0, o_aload 3 1), (1, o_i 0 1), (2, o_aload 0 1), (3, o_iload 1 1), (4, o_iload 2 1), (5, o_callH (xRun tb_N_className 3) 0 2 1 1 hs_L_className), (8, o_lastore), (9, o_goto 16), (16, o_i 0 1), (17, o_iret)]
abbrev y_L_className : MethodName := ⟨"NameMoverLaw", "className", "(LNameMover;IZ[J)I"⟩
abbrev rm_L_className : Room := { frames := 8, cells := 1, slots := 6, locals := 125 }
abbrev ws_L_className : List Cond := Cond.codeWith y_L_className method_9_code 5 (some .int) [(0, 9, 12, 15)] :: xtt
set_option maxRecDepth 100000 in
theorem hh_L_className : ∀ Z v, hs_L_className Z = some v → xHand "NameMoverLaw" ws_L_className method_9_code 5 5 [(0, 9, 12, 15)] Z v := fun Z v h => by
  match Z, h with
  | 0, h => cases h
  | 1, h => cases h; exact ⟨[], (0, 9, 12, 15), [], rfl, ⟨by decide, by decide⟩, by decide, tc tw_261, tc tw_351, (fun _ q => absurd q List.not_mem_nil), 1, by decide, Or.inl ⟨4, by decide, (by decide +kernel), (by decide +kernel), (by decide +kernel)⟩⟩
  | 2, h => cases h
  | 3, h => cases h
  | (_ + 4), h => cases h
set_option maxRecDepth 100000 in
theorem v_L_className : ∀ q ∈ tb_L_className, xSd (0, 0) (xEh [(0, 9, 12, 15)]) xCl "NameMoverLaw" ws_L_className method_9_code 5 (some .int) rm_L_className q :=
  xval (s_aload_n (f := 3) (by decide +kernel) rfl) (
  xval (s_iconst (z := 0) (by decide +kernel) (by decide)) (
  xval (s_aload_n (f := 0) (by decide +kernel) rfl) (
  xval (s_iload_n (f := 1) (by decide +kernel) rfl) (
  xval (s_iload_n (f := 2) (by decide +kernel) rfl) (
  xval (s_callH (i := 39) c_N_className (by decide +kernel) rfl (xtt_good tw_543) rfl (tc tw_540) (tc tw_541) (tc tw_542) (tc tw_1) ⟨by decide, by decide, by decide +kernel⟩ ⟨by decide, by decide, rfl, rfl, by decide, by decide⟩ hh_L_className) (
  xval (s_lastore (by decide +kernel)) (
  xval (s_goto (z := 7) (by decide +kernel) (by decide)) (
  xval (s_iconst (z := 0) (by decide +kernel) (by decide)) (
  xval (s_iret (by decide +kernel)) (
  xval_nil))))))))))
theorem c_L_className : xMet xCl y_L_className ws_L_className rm_L_className (xRun tb_L_className 5) := xMet.ofW (by decide) rfl v_L_className
def hs_L_memberName : Nat → Option Int32 := fun Z => match Z with
  | 0 => none
  | 1 => some 1
  | 2 => none
  | 3 => none
  | _ => none
def tb_L_memberName : xT := [(0, o_aload 4 2), (2, o_i 0 1), (3, o_aload 0 1), (4, o_iload 1 1), (5, o_iload 2 1), (6, o_iload 3 1), (7, o_callH (xRun tb_N_memberName 5) 0 3 1 1 hs_L_memberName), (10, o_lastore), (11, o_goto 18), (18, o_i 0 1), (19, o_iret)]
abbrev y_L_memberName : MethodName := ⟨"NameMoverLaw", "memberName", "(LNameMover;IIZ[J)I"⟩
abbrev rm_L_memberName : Room := { frames := 8, cells := 1, slots := 6, locals := 128 }
abbrev ws_L_memberName : List Cond := Cond.codeWith y_L_memberName method_10_code 6 (some .int) [(0, 11, 14, 15)] :: xtt
set_option maxRecDepth 100000 in
theorem hh_L_memberName : ∀ Z v, hs_L_memberName Z = some v → xHand "NameMoverLaw" ws_L_memberName method_10_code 6 7 [(0, 11, 14, 15)] Z v := fun Z v h => by
  match Z, h with
  | 0, h => cases h
  | 1, h => cases h; exact ⟨[], (0, 11, 14, 15), [], rfl, ⟨by decide, by decide⟩, by decide, tc tw_261, tc tw_351, (fun _ q => absurd q List.not_mem_nil), 1, by decide, Or.inl ⟨5, by decide, (by decide +kernel), (by decide +kernel), (by decide +kernel)⟩⟩
  | 2, h => cases h
  | 3, h => cases h
  | (_ + 4), h => cases h
set_option maxRecDepth 100000 in
theorem v_L_memberName : ∀ q ∈ tb_L_memberName, xSd (0, 0) (xEh [(0, 11, 14, 15)]) xCl "NameMoverLaw" ws_L_memberName method_10_code 6 (some .int) rm_L_memberName q :=
  xval (s_aload (by decide +kernel)) (
  xval (s_iconst (z := 0) (by decide +kernel) (by decide)) (
  xval (s_aload_n (f := 0) (by decide +kernel) rfl) (
  xval (s_iload_n (f := 1) (by decide +kernel) rfl) (
  xval (s_iload_n (f := 2) (by decide +kernel) rfl) (
  xval (s_iload_n (f := 3) (by decide +kernel) rfl) (
  xval (s_callH (i := 43) c_N_memberName (by decide +kernel) rfl (xtt_good tw_550) rfl (tc tw_547) (tc tw_548) (tc tw_549) (tc tw_1) ⟨by decide, by decide, by decide +kernel⟩ ⟨by decide, by decide, rfl, rfl, by decide, by decide⟩ hh_L_memberName) (
  xval (s_lastore (by decide +kernel)) (
  xval (s_goto (z := 7) (by decide +kernel) (by decide)) (
  xval (s_iconst (z := 0) (by decide +kernel) (by decide)) (
  xval (s_iret (by decide +kernel)) (
  xval_nil)))))))))))
theorem c_L_memberName : xMet xCl y_L_memberName ws_L_memberName rm_L_memberName (xRun tb_L_memberName 6) := xMet.ofW (by decide) rfl v_L_memberName
def hs_L_find : Nat → Option Int32 := fun Z => match Z with
  | 0 => none
  | 1 => some 1
  | 2 => none
  | 3 => some 2
  | _ => none
def tb_L_find : xT := [(0, o_aload 6 2), (2, o_i 0 1), (3, o_aload 0 1), (4, o_iload 1 1), (5, o_lload 2 1), (6, o_lload 4 2), (8, o_callH (xRun tb_N_find 7) 0 3 1 1 hs_L_find), (11, o_i2l), (12, o_lastore), (13, o_goto 24), (24, o_i 0 1), (25, o_iret)]
abbrev y_L_find : MethodName := ⟨"NameMoverLaw", "find", "(LNameMover;IJJ[J)I"⟩
abbrev rm_L_find : Room := { frames := 8, cells := 1, slots := 6, locals := 129 }
abbrev ws_L_find : List Cond := Cond.codeWith y_L_find method_11_code 8 (some .int) [(0, 13, 16, 15), (0, 13, 20, 51)] :: xtt
set_option maxRecDepth 100000 in
theorem hh_L_find : ∀ Z v, hs_L_find Z = some v → xHand "NameMoverLaw" ws_L_find method_11_code 8 8 [(0, 13, 16, 15), (0, 13, 20, 51)] Z v := fun Z v h => by
  match Z, h with
  | 0, h => cases h
  | 1, h => cases h; exact ⟨[], (0, 13, 16, 15), [(0, 13, 20, 51)], rfl, ⟨by decide, by decide⟩, by decide, tc tw_261, tc tw_351, (fun _ q => absurd q List.not_mem_nil), 1, by decide, Or.inl ⟨7, by decide, (by decide +kernel), (by decide +kernel), (by decide +kernel)⟩⟩
  | 2, h => cases h
  | 3, h => cases h; exact ⟨[(0, 13, 16, 15)], (0, 13, 20, 51), [], rfl, ⟨by decide, by decide⟩, by decide, tc tw_554, tc tw_565, (List.forall_mem_cons.mpr ⟨⟨⟨by decide, by decide⟩, by decide, 1, tc tw_261, List.mem_of_getElem? (i := 10) rfl⟩, (fun _ q => absurd q List.not_mem_nil)⟩), 2, by decide, Or.inl ⟨7, by decide, (by decide +kernel), (by decide +kernel), (by decide +kernel)⟩⟩
  | (_ + 4), h => cases h
set_option maxRecDepth 100000 in
theorem v_L_find : ∀ q ∈ tb_L_find, xSd (0, 0) (xEh [(0, 13, 16, 15), (0, 13, 20, 51)]) xCl "NameMoverLaw" ws_L_find method_11_code 8 (some .int) rm_L_find q :=
  xval (s_aload (by decide +kernel)) (
  xval (s_iconst (z := 0) (by decide +kernel) (by decide)) (
  xval (s_aload_n (f := 0) (by decide +kernel) rfl) (
  xval (s_iload_n (f := 1) (by decide +kernel) rfl) (
  xval (s_lload_n (f := 2) (by decide +kernel) rfl) (
  xval (s_lload (by decide +kernel)) (
  xval (s_callH (i := 47) c_N_find (by decide +kernel) rfl (xtt_good tw_558) rfl (tc tw_555) (tc tw_556) (tc tw_557) (tc tw_1) ⟨by decide, by decide, by decide +kernel⟩ ⟨by decide, by decide, rfl, rfl, by decide, by decide⟩ hh_L_find) (
  xval (s_i2l (by decide +kernel)) (
  xval (s_lastore (by decide +kernel)) (
  xval (s_goto (z := 11) (by decide +kernel) (by decide)) (
  xval (s_iconst (z := 0) (by decide +kernel) (by decide)) (
  xval (s_iret (by decide +kernel)) (
  xval_nil))))))))))))
theorem c_L_find : xMet xCl y_L_find ws_L_find rm_L_find (xRun tb_L_find 8) := xMet.ofW (by decide) rfl v_L_find
def hs_L_write : Nat → Option Int32 := fun Z => match Z with
  | 0 => none
  | 1 => some 1
  | 2 => none
  | 3 => none
  | _ => none
def tb_L_write : xT := [(0, o_aload 2 1), (1, o_i 0 1), (2, o_aload 0 1), (3, o_iload 1 1), (4, o_callH (xRun tb_N_write 2) 0 1 1 1 hs_L_write), (7, o_i2l), (8, o_lastore), (9, o_goto 15), (15, o_i 0 1), (16, o_iret)]
abbrev y_L_write : MethodName := ⟨"NameMoverLaw", "write", "(LNameMover;I[J)I"⟩
abbrev rm_L_write : Room := { frames := 8, cells := 1, slots := 6, locals := 139 }
abbrev ws_L_write : List Cond := Cond.codeWith y_L_write method_12_code 4 (some .int) [(0, 9, 12, 15)] :: xtt
set_option maxRecDepth 100000 in
theorem hh_L_write : ∀ Z v, hs_L_write Z = some v → xHand "NameMoverLaw" ws_L_write method_12_code 4 4 [(0, 9, 12, 15)] Z v := fun Z v h => by
  match Z, h with
  | 0, h => cases h
  | 1, h => cases h; exact ⟨[], (0, 9, 12, 15), [], rfl, ⟨by decide, by decide⟩, by decide, tc tw_261, tc tw_351, (fun _ q => absurd q List.not_mem_nil), 1, by decide, Or.inr ⟨3, by decide, (by decide +kernel), (by decide +kernel), (by decide +kernel)⟩⟩
  | 2, h => cases h
  | 3, h => cases h
  | (_ + 4), h => cases h
set_option maxRecDepth 100000 in
theorem v_L_write : ∀ q ∈ tb_L_write, xSd (0, 0) (xEh [(0, 9, 12, 15)]) xCl "NameMoverLaw" ws_L_write method_12_code 4 (some .int) rm_L_write q :=
  xval (s_aload_n (f := 2) (by decide +kernel) rfl) (
  xval (s_iconst (z := 0) (by decide +kernel) (by decide)) (
  xval (s_aload_n (f := 0) (by decide +kernel) rfl) (
  xval (s_iload_n (f := 1) (by decide +kernel) rfl) (
  xval (s_callH (i := 53) c_N_write (by decide +kernel) rfl (xtt_good tw_584) rfl (tc tw_581) (tc tw_582) (tc tw_583) (tc tw_1) ⟨by decide, by decide, by decide +kernel⟩ ⟨by decide, by decide, rfl, rfl, by decide, by decide⟩ hh_L_write) (
  xval (s_i2l (by decide +kernel)) (
  xval (s_lastore (by decide +kernel)) (
  xval (s_goto (z := 6) (by decide +kernel) (by decide)) (
  xval (s_iconst (z := 0) (by decide +kernel) (by decide)) (
  xval (s_iret (by decide +kernel)) (
  xval_nil))))))))))
theorem c_L_write : xMet xCl y_L_write ws_L_write rm_L_write (xRun tb_L_write 4) := xMet.ofW (by decide) rfl v_L_write
def hs_L_byteAt : Nat → Option Int32 := fun Z => match Z with
  | 0 => none
  | 1 => some 1
  | 2 => none
  | 3 => none
  | _ => none
def tb_L_byteAt : xT := [(0, o_aload 2 1), (1, o_i 0 1), (2, o_aload 0 1), (3, o_iload 1 1), (4, o_callH (xRun tb_N_byteAt 2) 0 1 1 1 hs_L_byteAt), (7, o_i2l), (8, o_lastore), (9, o_goto 15), (15, o_i 0 1), (16, o_iret)]
abbrev y_L_byteAt : MethodName := ⟨"NameMoverLaw", "byteAt", "(LNameMover;I[J)I"⟩
abbrev rm_L_byteAt : Room := { frames := 8, cells := 1, slots := 6, locals := 124 }
abbrev ws_L_byteAt : List Cond := Cond.codeWith y_L_byteAt method_13_code 4 (some .int) [(0, 9, 12, 15)] :: xtt
set_option maxRecDepth 100000 in
theorem hh_L_byteAt : ∀ Z v, hs_L_byteAt Z = some v → xHand "NameMoverLaw" ws_L_byteAt method_13_code 4 4 [(0, 9, 12, 15)] Z v := fun Z v h => by
  match Z, h with
  | 0, h => cases h
  | 1, h => cases h; exact ⟨[], (0, 9, 12, 15), [], rfl, ⟨by decide, by decide⟩, by decide, tc tw_261, tc tw_351, (fun _ q => absurd q List.not_mem_nil), 1, by decide, Or.inr ⟨3, by decide, (by decide +kernel), (by decide +kernel), (by decide +kernel)⟩⟩
  | 2, h => cases h
  | 3, h => cases h
  | (_ + 4), h => cases h
set_option maxRecDepth 100000 in
theorem v_L_byteAt : ∀ q ∈ tb_L_byteAt, xSd (0, 0) (xEh [(0, 9, 12, 15)]) xCl "NameMoverLaw" ws_L_byteAt method_13_code 4 (some .int) rm_L_byteAt q :=
  xval (s_aload_n (f := 2) (by decide +kernel) rfl) (
  xval (s_iconst (z := 0) (by decide +kernel) (by decide)) (
  xval (s_aload_n (f := 0) (by decide +kernel) rfl) (
  xval (s_iload_n (f := 1) (by decide +kernel) rfl) (
  xval (s_callH (i := 57) c_N_byteAt (by decide +kernel) rfl (xtt_good tw_666) rfl (tc tw_663) (tc tw_664) (tc tw_665) (tc tw_1) ⟨by decide, by decide, by decide +kernel⟩ ⟨by decide, by decide, rfl, rfl, by decide, by decide⟩ hh_L_byteAt) (
  xval (s_i2l (by decide +kernel)) (
  xval (s_lastore (by decide +kernel)) (
  xval (s_goto (z := 6) (by decide +kernel) (by decide)) (
  xval (s_iconst (z := 0) (by decide +kernel) (by decide)) (
  xval (s_iret (by decide +kernel)) (
  xval_nil))))))))))
theorem c_L_byteAt : xMet xCl y_L_byteAt ws_L_byteAt rm_L_byteAt (xRun tb_L_byteAt 4) := xMet.ofW (by decide) rfl v_L_byteAt
def hs_L_poke : Nat → Option Int32 := fun Z => match Z with
  | 0 => some 2
  | 1 => some 1
  | 2 => none
  | 3 => none
  | _ => none
def tb_L_poke : xT := [(0, o_aload 0 1), (1, o_iload 1 1), (2, o_iload 2 1), (3, o_callH (xRun tb_N_poke 3) 0 2 1 1 hs_L_poke), (6, o_goto 15), (15, o_i 0 1), (16, o_iret)]
abbrev y_L_poke : MethodName := ⟨"NameMoverLaw", "poke", "(LNameMover;II)I"⟩
abbrev rm_L_poke : Room := { frames := 8, cells := 1, slots := 6, locals := 125 }
abbrev ws_L_poke : List Cond := Cond.codeWith y_L_poke method_14_code 4 (some .int) [(0, 6, 9, 15), (0, 6, 12, 13)] :: xtt
set_option maxRecDepth 100000 in
theorem hh_L_poke : ∀ Z v, hs_L_poke Z = some v → xHand "NameMoverLaw" ws_L_poke method_14_code 4 3 [(0, 6, 9, 15), (0, 6, 12, 13)] Z v := fun Z v h => by
  match Z, h with
  | 0, h => cases h; exact ⟨[(0, 6, 9, 15)], (0, 6, 12, 13), [], rfl, ⟨by decide, by decide⟩, by decide, tc tw_260, tc tw_281, (List.forall_mem_cons.mpr ⟨⟨⟨by decide, by decide⟩, by decide, 1, tc tw_261, List.mem_of_getElem? (i := 0) rfl⟩, (fun _ q => absurd q List.not_mem_nil)⟩), 2, by decide, Or.inr ⟨3, by decide, (by decide +kernel), (by decide +kernel), (by decide +kernel)⟩⟩
  | 1, h => cases h; exact ⟨[], (0, 6, 9, 15), [(0, 6, 12, 13)], rfl, ⟨by decide, by decide⟩, by decide, tc tw_261, tc tw_351, (fun _ q => absurd q List.not_mem_nil), 1, by decide, Or.inr ⟨3, by decide, (by decide +kernel), (by decide +kernel), (by decide +kernel)⟩⟩
  | 2, h => cases h
  | 3, h => cases h
  | (_ + 4), h => cases h
set_option maxRecDepth 100000 in
theorem v_L_poke : ∀ q ∈ tb_L_poke, xSd (0, 0) (xEh [(0, 6, 9, 15), (0, 6, 12, 13)]) xCl "NameMoverLaw" ws_L_poke method_14_code 4 (some .int) rm_L_poke q :=
  xval (s_aload_n (f := 0) (by decide +kernel) rfl) (
  xval (s_iload_n (f := 1) (by decide +kernel) rfl) (
  xval (s_iload_n (f := 2) (by decide +kernel) rfl) (
  xval (s_callH (i := 60) c_N_poke (by decide +kernel) rfl (xtt_good tw_680) rfl (tc tw_677) (tc tw_678) (tc tw_679) (tc tw_1) ⟨by decide, by decide, by decide +kernel⟩ ⟨by decide, by decide, rfl, rfl, by decide, by decide⟩ hh_L_poke) (
  xval (s_goto (z := 9) (by decide +kernel) (by decide)) (
  xval (s_iconst (z := 0) (by decide +kernel) (by decide)) (
  xval (s_iret (by decide +kernel)) (
  xval_nil)))))))
theorem c_L_poke : xMet xCl y_L_poke ws_L_poke rm_L_poke (xRun tb_L_poke 4) := xMet.ofW (by decide) rfl v_L_poke
def hs_L_load : Nat → Option Int32 := fun Z => match Z with
  | 0 => some 2
  | 1 => none
  | 2 => some 1
  | 3 => none
  | _ => none
def tb_L_load : xT := [(0, o_aload 1 1), (1, o_i 0 1), (2, o_aload 0 1), (3, o_callH (xRun tb_N_load 1) 0 0 1 1 hs_L_load), (6, o_i2l), (7, o_lastore), (8, o_goto 17), (17, o_i 0 1), (18, o_iret)]
abbrev y_L_load : MethodName := ⟨"NameMoverLaw", "load", "(LNameMover;[J)I"⟩
abbrev rm_L_load : Room := { frames := 7, cells := 1, slots := 6, locals := 169 }
abbrev ws_L_load : List Cond := Cond.codeWith y_L_load method_15_code 3 (some .int) [(0, 8, 11, 17), (0, 8, 14, 13)] :: xtt
set_option maxRecDepth 100000 in
theorem hh_L_load : ∀ Z v, hs_L_load Z = some v → xHand "NameMoverLaw" ws_L_load method_15_code 3 3 [(0, 8, 11, 17), (0, 8, 14, 13)] Z v := fun Z v h => by
  match Z, h with
  | 0, h => cases h; exact ⟨[(0, 8, 11, 17)], (0, 8, 14, 13), [], rfl, ⟨by decide, by decide⟩, by decide, tc tw_260, tc tw_281, (List.forall_mem_cons.mpr ⟨⟨⟨by decide, by decide⟩, by decide, 2, tc tw_262, List.mem_of_getElem? (i := 1) rfl⟩, (fun _ q => absurd q List.not_mem_nil)⟩), 2, by decide, Or.inr ⟨2, by decide, (by decide +kernel), (by decide +kernel), (by decide +kernel)⟩⟩
  | 1, h => cases h
  | 2, h => cases h; exact ⟨[], (0, 8, 11, 17), [(0, 8, 14, 13)], rfl, ⟨by decide, by decide⟩, by decide, tc tw_262, tc tw_380, (fun _ q => absurd q List.not_mem_nil), 1, by decide, Or.inr ⟨2, by decide, (by decide +kernel), (by decide +kernel), (by decide +kernel)⟩⟩
  | 3, h => cases h
  | (_ + 4), h => cases h
set_option maxRecDepth 100000 in
theorem v_L_load : ∀ q ∈ tb_L_load, xSd (0, 0) (xEh [(0, 8, 11, 17), (0, 8, 14, 13)]) xCl "NameMoverLaw" ws_L_load method_15_code 3 (some .int) rm_L_load q :=
  xval (s_aload_n (f := 1) (by decide +kernel) rfl) (
  xval (s_iconst (z := 0) (by decide +kernel) (by decide)) (
  xval (s_aload_n (f := 0) (by decide +kernel) rfl) (
  xval (s_callH (i := 64) c_N_load (by decide +kernel) rfl (xtt_good tw_689) rfl (tc tw_686) (tc tw_687) (tc tw_688) (tc tw_1) ⟨by decide, by decide, by decide +kernel⟩ ⟨by decide, by decide, rfl, rfl, by decide, by decide⟩ hh_L_load) (
  xval (s_i2l (by decide +kernel)) (
  xval (s_lastore (by decide +kernel)) (
  xval (s_goto (z := 9) (by decide +kernel) (by decide)) (
  xval (s_iconst (z := 0) (by decide +kernel) (by decide)) (
  xval (s_iret (by decide +kernel)) (
  xval_nil)))))))))
theorem c_L_load : xMet xCl y_L_load ws_L_load rm_L_load (xRun tb_L_load 3) := xMet.ofW (by decide) rfl v_L_load
end
