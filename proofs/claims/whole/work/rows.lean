section
-- AN ABSTRACT MACHINE over the kit's rows: cells are numbered, a reference is a cell's number; a method's body is a table of steps
abbrev xC : Type := (Nat × vp_A) ⊕ (Nat × List Value)
abbrev xH : Type := List xC
abbrev xL : Type := List (Option Value)
abbrev xF : Type := Nat × xL × List Value × xH × Nat
abbrev xR : Type := Option Value ⊕ Nat
abbrev xQ : Type := xR → xH → Nat → Prop
abbrev xOp : Type := xF → (xF → Prop) → xQ → Prop
abbrev xT : Type := List (Nat × xOp)
abbrev xP : Type := List Value → xH → xQ → Prop
def xlk : xT → Nat → Option xOp
  | [], _ => none
  | q :: t, pc => bif Nat.beq q.1 pc then some q.2 else xlk t pc
theorem xlk_mem : ∀ {tb : xT} {pc : Nat} {op : xOp}, xlk tb pc = some op → (pc, op) ∈ tb
  | [], _, _, h => by cases h
  | q :: t, pc, op, h => by
    unfold xlk at h
    cases hb : Nat.beq q.1 pc with
    | true =>
      rw [hb] at h
      have h1 : q.2 = op := by simpa using h
      have h2 : q.1 = pc := Nat.eq_of_beq_eq_true hb
      have : q = (pc, op) := by rw [← h1, ← h2]
      rw [this]
      exact List.mem_cons_self
    | false =>
      rw [hb] at h
      exact List.mem_cons_of_mem _ (xlk_mem h)
def xStep (tb : xT) (I : xF → Prop) (Q : xQ) (c : xF) : Prop := match xlk tb c.1 with
  | none => False
  | some op => op c I Q
/-- the least predicate that every step of the table carries on -/
def xG (tb : xT) (Q : xQ) (c : xF) : Prop := ∀ I : xF → Prop, (∀ (c' : xF) (J : xF → Prop), (∀ x, J x → I x) → xStep tb J Q c' → I c') → I c
theorem xG.step {tb : xT} {Q : xQ} {c : xF} (h : xStep tb (xG tb Q) Q c) : xG tb Q c := fun I hI => hI c _ (fun _ hx => hx I hI) h
/-- some steps at once, up to the cuts -/
def xgo (tb : xT) (Q : xQ) (cut : List Nat) : Nat → xF → Prop
  | 0, c => xG tb Q c
  | n + 1, c => bif cut.contains c.1 then xG tb Q c else xStep tb (xgo tb Q cut n) Q c
theorem xG.ofGo {tb : xT} {Q : xQ} {cut : List Nat} : ∀ (n : Nat) {c : xF}, xgo tb Q cut n c → xG tb Q c
  | 0, _, h => h
  | n + 1, c, h => by
    unfold xgo at h
    cases hb : cut.contains c.1 with
    | true => rw [hb] at h; exact h
    | false => rw [hb] at h; exact fun I hI => hI c _ (fun x hx => xG.ofGo n hx I hI) h
theorem xG.go {tb : xT} {Q : xQ} {c : xF} (cut : List Nat) (n : Nat) (h : xStep tb (xgo tb Q cut n) Q c) : xG tb Q c := fun I hI => hI c _ (fun x hx => xG.ofGo n hx I hI) h
theorem xG.mono {tb : xT} {Q : xQ} {c : xF} (h : xG tb Q c) : xG tb Q c := h
def xv (ρ : Nat → Nat) : Value → Value
  | .ref k => .ref (ρ k)
  | .int x => .int x
  | .long x => .long x
  | .float x => .float x
  | .double x => .double x
  | .null => .null
  | .retAddr x => .retAddr x
def xe (ρ : Nat → Nat) (cA : Nat → ClassId) : xC → va_E
  | .inl a => .inl (cA a.1, a.2)
  | .inr o => .inr (o.1, o.2.map (xv ρ))
def xw (ρ : Nat → Nat) (cA : Nat → ClassId) : Nat → xH → va_W
  | _, [] => []
  | i, c :: t => (ρ i, xe ρ cA c) :: xw ρ cA (i + 1) t
def xla (ρ : Nat → Nat) : Nat → xL → List (Nat × Value)
  | _, [] => []
  | i, none :: t => xla ρ (i + 1) t
  | i, some v :: t => (i, xv ρ v) :: xla ρ (i + 1) t
def xd : Option Value → Option Value
  | some v => bif Nat.beq v.category 2 then none else some v
  | none => none
def xset (i : Nat) (v : Value) : Nat → xL → xL
  | _, [] => []
  | j, o :: t => (bif Nat.beq j i then some v else bif Nat.beq (j + 1) i then xd o else o) :: xset i v (j + 1) t
def xset2 (i : Nat) (v : Value) : Nat → xL → xL
  | _, [] => []
  | j, o :: t => (bif Nat.beq j i then some v else bif Nat.beq j (i + 1) then none else bif Nat.beq (j + 1) i then xd o else o) :: xset2 i v (j + 1) t
def xcs (st : List Value) : Nat := (st.map fun v => v.category).sum
section XA
variable {ρ : Nat → Nat} {cA : Nat → ClassId}
theorem xv_cat (v : Value) : (xv ρ v).category = v.category := by cases v <;> rfl
theorem xcs_map (st : List Value) : ((st.map (xv ρ)).map fun v => v.category).sum = xcs st := by
  unfold xcs
  rw [List.map_map]
  congr 1
  exact List.map_congr_left fun v _ => xv_cat v
theorem xw_get : ∀ (h : xH) (i k : Nat), (xw ρ cA i h)[k]? = h[k]?.map (fun c => (ρ (i + k), xe ρ cA c))
  | [], i, k => by simp [xw]
  | c :: t, i, 0 => by simp [xw]
  | c :: t, i, k + 1 => by
    simp only [xw, List.getElem?_cons_succ]
    rw [xw_get t (i + 1) k, show i + 1 + k = i + (k + 1) by omega]
theorem xw_at {h : xH} {k : Nat} {c : xC} (e : h[k]? = some c) : (xw ρ cA 0 h)[k]? = some (ρ k, xe ρ cA c) := by
  rw [xw_get, e]; simp
theorem xw_set : ∀ (h : xH) (i k : Nat) (c : xC), (xw ρ cA i h).set k (ρ (i + k), xe ρ cA c) = xw ρ cA i (h.set k c)
  | [], i, k, c => by simp [xw]
  | d :: t, i, 0, c => by simp [xw]
  | d :: t, i, k + 1, c => by
    simp only [xw, List.set_cons_succ]
    rw [← xw_set t (i + 1) k c, show i + 1 + k = i + (k + 1) by omega]
theorem xw_set0 (h : xH) (k : Nat) (c : xC) : (xw ρ cA 0 h).set k (ρ k, xe ρ cA c) = xw ρ cA 0 (h.set k c) := by
  have := xw_set (ρ := ρ) (cA := cA) h 0 k c
  rwa [Nat.zero_add] at this
theorem xla_mem : ∀ (l : xL) (i : Nat) (q : Nat × Value), q ∈ xla ρ i l ↔ ∃ (k : Nat) (v : Value), l[k]? = some (some v) ∧ q = (i + k, xv ρ v)
  | [], i, q => by simp [xla]
  | none :: t, i, q => by
    simp only [xla]
    rw [xla_mem t (i + 1) q]
    constructor
    · rintro ⟨k, v, h1, h2⟩
      exact ⟨k + 1, v, by simpa using h1, by rw [h2, show i + 1 + k = i + (k + 1) by omega]⟩
    · rintro ⟨k, v, h1, h2⟩
      cases k with
      | zero => simp at h1
      | succ k => exact ⟨k, v, by simpa using h1, by rw [h2, show i + 1 + k = i + (k + 1) by omega]⟩
  | some w :: t, i, q => by
    simp only [xla, List.mem_cons]
    rw [xla_mem t (i + 1) q]
    constructor
    · rintro (h | ⟨k, v, h1, h2⟩)
      · exact ⟨0, w, by simp, by rw [h]; simp⟩
      · exact ⟨k + 1, v, by simpa using h1, by rw [h2, show i + 1 + k = i + (k + 1) by omega]⟩
    · rintro ⟨k, v, h1, h2⟩
      cases k with
      | zero =>
        have : w = v := by simpa using h1
        exact Or.inl (by rw [h2, this]; simp)
      | succ k => exact Or.inr ⟨k, v, by simpa using h1, by rw [h2, show i + 1 + k = i + (k + 1) by omega]⟩
theorem lv_subset {ls : Array Slot} {n : Nat} {a b : List (Nat × Value)} (h : lv_has ls n a) (hs : ∀ q ∈ b, q ∈ a) : lv_has ls n b := ⟨h.1, h.2.1, fun q hq => h.2.2 q (hs q hq)⟩
theorem xla_at {ls : Array Slot} {n : Nat} {l : xL} (h : lv_has ls n (xla ρ 0 l)) {i : Nat} {v : Value} (e : l[i]? = some (some v)) : ls[i]? = some (.val (xv ρ v)) :=
  h.2.2 (i, xv ρ v) ((xla_mem l 0 _).mpr ⟨i, v, e, by simp⟩)
theorem xset_get (i : Nat) (v : Value) : ∀ (l : xL) (j k : Nat), (xset i v j l)[k]? = l[k]?.map (fun o => bif Nat.beq (j + k) i then some v else bif Nat.beq (j + k + 1) i then xd o else o)
  | [], j, k => by simp [xset]
  | o :: t, j, 0 => by simp [xset]
  | o :: t, j, k + 1 => by
    simp only [xset, List.getElem?_cons_succ]
    rw [xset_get i v t (j + 1) k, show j + 1 + k = j + (k + 1) by omega]
theorem xset2_get (i : Nat) (v : Value) : ∀ (l : xL) (j k : Nat), (xset2 i v j l)[k]? = l[k]?.map (fun o => bif Nat.beq (j + k) i then some v else bif Nat.beq (j + k) (i + 1) then none else bif Nat.beq (j + k + 1) i then xd o else o)
  | [], j, k => by simp [xset2]
  | o :: t, j, 0 => by simp [xset2]
  | o :: t, j, k + 1 => by
    simp only [xset2, List.getElem?_cons_succ]
    rw [xset2_get i v t (j + 1) k, show j + 1 + k = j + (k + 1) by omega]
theorem xd_some {o : Option Value} {w : Value} (h : xd o = some w) : o = some w ∧ ¬ w.category = 2 := by
  cases o with
  | none => cases h
  | some u =>
    change (bif Nat.beq u.category 2 then none else some u) = some w at h
    cases hb : Nat.beq u.category 2 with
    | true => rw [hb] at h; cases h
    | false =>
      rw [hb] at h
      have hu : u = w := by simpa using h
      subst hu
      exact ⟨rfl, fun q => by rw [q] at hb; cases hb⟩
theorem beq_f {a b : Nat} (h : Nat.beq a b = false) : ¬ a = b := fun q => by subst q; rw [Nat.beq_refl] at h; cases h
theorem xset_lv {ls : Array Slot} {n : Nat} {l : xL} {i : Nat} {v : Value} (h : lv_has ls n ((i, xv ρ v) :: (xla ρ 0 l).filter (fun q => !(q.1 == i) && !(q.1 + 1 == i && q.2.category == 2)))) : lv_has ls n (xla ρ 0 (xset i v 0 l)) := by
  refine lv_subset h fun q hq => ?_
  obtain ⟨k, w, h1, rfl⟩ := (xla_mem _ 0 q).mp hq
  rw [xset_get] at h1
  cases hlk : l[k]? with
  | none => rw [hlk] at h1; cases h1
  | some o =>
    rw [hlk] at h1
    simp only [Option.map_some, Option.some.injEq, Nat.zero_add] at h1
    cases hb : Nat.beq k i with
    | true =>
      rw [hb] at h1
      have e1 : v = w := by simpa using h1
      have e2 : k = i := Nat.eq_of_beq_eq_true hb
      subst e1; subst e2
      simp
    | false =>
      rw [hb] at h1
      have hne : ¬ k = i := beq_f hb
      refine List.mem_cons_of_mem _ (List.mem_filter.mpr ?_)
      cases hc : Nat.beq (k + 1) i with
      | true =>
        rw [hc] at h1
        obtain ⟨rfl, hcat⟩ := xd_some (by simpa using h1)
        refine ⟨(xla_mem _ 0 _).mpr ⟨k, w, hlk, rfl⟩, ?_⟩
        simp [hne, xv_cat, hcat]
      | false =>
        rw [hc] at h1
        have e1 : o = some w := by simpa using h1
        subst e1
        refine ⟨(xla_mem _ 0 _).mpr ⟨k, w, hlk, rfl⟩, ?_⟩
        simp [hne, beq_f hc]
theorem xset2_lv {ls : Array Slot} {n : Nat} {l : xL} {i : Nat} {v : Value} (h : lv_has ls n ((i, xv ρ v) :: (xla ρ 0 l).filter (fun q => !(q.1 == i) && (!(q.1 == i + 1) && !(q.1 + 1 == i && q.2.category == 2))))) : lv_has ls n (xla ρ 0 (xset2 i v 0 l)) := by
  refine lv_subset h fun q hq => ?_
  obtain ⟨k, w, h1, rfl⟩ := (xla_mem _ 0 q).mp hq
  rw [xset2_get] at h1
  cases hlk : l[k]? with
  | none => rw [hlk] at h1; cases h1
  | some o =>
    rw [hlk] at h1
    simp only [Option.map_some, Option.some.injEq, Nat.zero_add] at h1
    cases hb : Nat.beq k i with
    | true =>
      rw [hb] at h1
      have e1 : v = w := by simpa using h1
      have e2 : k = i := Nat.eq_of_beq_eq_true hb
      subst e1; subst e2
      simp
    | false =>
      rw [hb] at h1
      have hne : ¬ k = i := beq_f hb
      refine List.mem_cons_of_mem _ (List.mem_filter.mpr ?_)
      cases hb2 : Nat.beq k (i + 1) with
      | true => rw [hb2] at h1; cases h1
      | false =>
        rw [hb2] at h1
        have hne2 : ¬ k = i + 1 := beq_f hb2
        cases hc : Nat.beq (k + 1) i with
        | true =>
          rw [hc] at h1
          obtain ⟨rfl, hcat⟩ := xd_some (by simpa using h1)
          refine ⟨(xla_mem _ 0 _).mpr ⟨k, w, hlk, rfl⟩, ?_⟩
          simp [hne, hne2, xv_cat, hcat]
        | false =>
          rw [hc] at h1
          have e1 : o = some w := by simpa using h1
          subst e1
          refine ⟨(xla_mem _ 0 _).mpr ⟨k, w, hlk, rfl⟩, ?_⟩
          simp [hne, hne2, beq_f hc]
end XA
def xty (cA : Nat → ClassId) : List (ClassId × FieldType) := [(cA 0, .int), (cA 1, .long), (cA 2, .boolean)]
/-- the names of what is thrown -/
def xEx : Nat → String
  | 0 => "java/lang/IllegalArgumentException"
  | 1 => "java/lang/IndexOutOfBoundsException"
  | 2 => "java/lang/IllegalStateException"
  | _ => "java/util/NoSuchElementException"
def xO (ρ : Nat → Nat) (r : xR) (o : Outcome) (s t : State) : Prop := match r with
  | .inl none => o = .returned none
  | .inl (some v) => o = .returned (some (xv ρ v))
  | .inr X => ∃ (a : Nat) (cell : Cell), o = .threw a ∧ t.heap[a]? = some cell ∧ (∀ k, cell.vm ≠ .statics k) ∧ s.vm.findClass (xEx X) = some cell.cls ∧ ∃ k, s.vm.classes[cell.cls]? = some k
def xEnd (k0 : Nat × Nat) (cl : List vw_C) (D : va_G) (cA : Nat → ClassId) (ρ : Nat → Nat) (A : Nat → Prop) (Q : xQ) (s : State) (o : Outcome) (t : State) : Prop :=
  ∃ (r : xR) (h : xH) (n : Nat), Q r h n ∧ xO ρ r o s t ∧ va_P D cl (xw ρ cA 0 h) t.heap ∧ va_D A (xw ρ cA 0 h) ∧ va_F A s t ∧ s.WarmedH t.vm ∧ ∃ L, s.sameButNew ({ t with vm := s.vm } : State) L (k0.1 + n) (k0.2 + 6 * n) ∧ ∀ q ∈ L, A q.base
def xMQ (k0 : Nat × Nat) (cl : List vw_C) (D : va_G) (cA : Nat → ClassId) (ρ : Nat → Nat) (A : Nat → Prop) (Q : xQ) (s : State) (below : List Frame) : State → Prop := fun t => ∃ o, t.status = .running ∧ Ended t below o ∧ xEnd k0 cl D cA ρ A Q s o t
/-- the two statics of Throwable that a throw reads -/
def xNC : List Cond := [.not (.castable "java/lang/IllegalArgumentException" "java/lang/IndexOutOfBoundsException"), .not (.castable "java/lang/IllegalArgumentException" "java/lang/IllegalStateException"), .not (.castable "java/lang/IllegalArgumentException" "java/util/NoSuchElementException"), .not (.castable "java/lang/IndexOutOfBoundsException" "java/lang/IllegalArgumentException"), .not (.castable "java/lang/IndexOutOfBoundsException" "java/lang/IllegalStateException"), .not (.castable "java/lang/IndexOutOfBoundsException" "java/util/NoSuchElementException"), .not (.castable "java/lang/IllegalStateException" "java/lang/IllegalArgumentException"), .not (.castable "java/lang/IllegalStateException" "java/lang/IndexOutOfBoundsException"), .not (.castable "java/lang/IllegalStateException" "java/util/NoSuchElementException"), .not (.castable "java/util/NoSuchElementException" "java/lang/IllegalArgumentException"), .not (.castable "java/util/NoSuchElementException" "java/lang/IndexOutOfBoundsException"), .not (.castable "java/util/NoSuchElementException" "java/lang/IllegalStateException")]
def xHs (U : State) : Prop := (∀ w ∈ xNC, w.before #[] U = true) ∧ ((Cond.laysStatic "java/lang/Throwable" "UNASSIGNED_STACK" "[Ljava/lang/StackTraceElement;").before #[] U = true ∧ (Cond.isRef (.static "java/lang/Throwable" "UNASSIGNED_STACK" "[Ljava/lang/StackTraceElement;")).before #[] U = true) ∧ (Cond.laysStatic "java/lang/Throwable" "SUPPRESSED_SENTINEL" "Ljava/util/List;").before #[] U = true ∧ (Cond.isRef (.static "java/lang/Throwable" "SUPPRESSED_SENTINEL" "Ljava/util/List;")).before #[] U = true
theorem ls_kept {C n d : String} {s U : State} {args args' : Array Value} (hvm : s.vm.Alike U.vm) (hk : ∀ (a : Nat) (cell : Cell), s.heap[a]? = some cell → cell.vm.isStatics = true → U.heap[a]? = some cell) (h : (Cond.laysStatic C n d).before args s = true) :
    (Cond.laysStatic C n d).before args' U = true ∧ ((Cond.isRef (.static C n d)).before args s = true → (Cond.isRef (.static C n d)).before args' U = true) := by
  obtain ⟨c, k, i, f, a, cell, hc, hi, hst, hsta, hcell, hiss, hcls, hlt, hty⟩ := Cond.laysStatic_spec h
  obtain ⟨k', hi', he⟩ := State.fieldFound?_setVm hvm hi
  have hi2 : U.fieldFound? C n d = some (c, k', i, f) := hi'
  have hc' : U.vm.findClass C = some c := by rw [hvm.findClass]; exact hc
  have hcell' := hk a cell hcell hiss
  have hsta' : k'.statics = some a := by rw [he]; exact hsta
  have hty' : k'.staticTypes[f.slot]? = some f.type := by rw [he]; exact hty
  refine ⟨by simp [Cond.before, Cond.holds, Cond.value, hc', hi2, hst, hsta', hcell', hiss, hcls, hlt, hty'], fun hr => ?_⟩
  have e1 : (Term.static C n d).eval args s none [] s = cell.slots[f.slot]? := by simp [Term.eval, State.fieldNamed?, hi, hst, hsta, hcell, hiss]
  have e2 : (Term.static C n d).eval args' U none [] U = cell.slots[f.slot]? := by simp [Term.eval, State.fieldNamed?, hi2, hst, hsta', hcell', hiss]
  simp only [Cond.before, Cond.holds, Cond.value] at hr ⊢
  rw [e2]
  rw [e1] at hr
  exact hr
theorem xNC_is : ∀ w ∈ xNC, ∃ a b, w = Cond.not (.castable a b) := by
  intro w hw
  simp only [xNC, List.mem_cons, List.not_mem_nil, or_false] at hw
  rcases hw with rfl | rfl | rfl | rfl | rfl | rfl | rfl | rfl | rfl | rfl | rfl | rfl <;> exact ⟨_, _, rfl⟩
theorem xNC_kept {s U : State} {args args' : Array Value} (hvm : s.vm.Alike U.vm) : ∀ w ∈ xNC, w.before args s = true → w.before args' U = true := by
  intro w hw h
  obtain ⟨a, b, rfl⟩ := xNC_is w hw
  have h1 := Cond.castAtom_setVm (args := args) hvm (.not (.castable a b)) rfl h
  simp only [Cond.before, Cond.holds, Cond.value, State.vm_setVm] at h1 ⊢
  exact h1
theorem xHs.kept {s U : State} (hvm : s.vm.Alike U.vm) (hk : ∀ (a : Nat) (cell : Cell), s.heap[a]? = some cell → cell.vm.isStatics = true → U.heap[a]? = some cell) (h : xHs s) : xHs U :=
  ⟨fun w hw => xNC_kept hvm w hw (h.1 w hw), ⟨(ls_kept hvm hk h.2.1.1).1, (ls_kept hvm hk h.2.1.1).2 h.2.1.2⟩, (ls_kept hvm hk h.2.2.1).1, (ls_kept hvm hk h.2.2.1).2 h.2.2.2⟩
theorem x_stat {A : Nat → Prop} {H0 H : Heap} {locs : List Loc} (hS : va_S A H0 H locs) (hns : ∀ q, A q → ∀ cell : Cell, H0[q]? = some cell → cell.vm.isStatics = false) : ∀ (a : Nat) (cell : Cell), H0[a]? = some cell → cell.vm.isStatics = true → H[a]? = some cell := fun a cell h1 h2 => by
  rw [hS.2.1 a (Array.getElem?_eq_some_iff.mp h1).1 (fun z => by rw [hns a z cell h1] at h2; cases h2)]
  exact h1
def xLo (l : Launch) : Prop := ∀ e, l.admits e → e.platform.stackTraces = false
def xCx (Ex : Code → State → (Nat → Nat) → (Nat → Prop) → Prop) (cl : List vw_C) (own : String) (Ts : List Cond) (cc : ByteArray) (nL : Nat) (ret : Option FieldType) (p : Program) (l : Launch) (s : State) (m : MethodId) (args : Array Value) (meth : Method) (c : Code) (D : va_G) (cA : Nat → ClassId) (ρ : Nat → Nat) (A : Nat → Prop) : Prop :=
  p.tables.exec = Jvm.exec ∧ c.code = cc ∧ c.maxLocals = nL ∧ meth.sig.returnType = ret ∧ meth.locks = false ∧ s.vm.findClass own = some m.cls ∧ (∀ w ∈ Ts, w.before args s = true) ∧ va_K D cl (xty cA) s ∧ (∀ q, s.heap.size ≤ q → A q) ∧ Ex c s ρ A ∧ xLo l ∧ (∀ q, A q → ∀ cell : Cell, s.heap[q]? = some cell → cell.vm.isStatics = false) ∧ xHs s
def xWW (k0 : Nat × Nat) (cl : List vw_C) (R : Room) (nL : Nat) (p : Program) (l : Launch) (e : Env) (s : State) (m : MethodId) (args : Array Value) (below : List Frame) (meth : Method) (c : Code) (D : va_G) (cA : Nat → ClassId) (ρ : Nat → Nat) (A : Nat → Prop) (Q : xQ) (x : xF) : Prop :=
  ∀ (H : Heap) (locs : List Loc) (ls : Array Slot), lv_has ls nL (xla ρ 0 x.2.1) → va_P D cl (xw ρ cA 0 x.2.2.2.1) H → va_D A (xw ρ cA 0 x.2.2.2.1) → va_S A s.heap H locs →
    W p l e R s m args below meth c H locs (k0.1 + x.2.2.2.2) (k0.2 + 6 * x.2.2.2.2) (xMQ k0 cl D cA ρ A Q s below) (F0 m x.1 ls (x.2.2.1.map (xv ρ)))
def x0 : Code → State → (Nat → Nat) → (Nat → Prop) → Prop := fun c _ _ _ => c.exceptionTable.isEmpty = true
theorem x0_e : ∀ c s ρ A, x0 c s ρ A → c.exceptionTable.isEmpty = true := fun _ _ _ _ h => h
def xSd (k0 : Nat × Nat) (Ex : Code → State → (Nat → Nat) → (Nat → Prop) → Prop) (cl : List vw_C) (own : String) (Ts : List Cond) (cc : ByteArray) (nL : Nat) (ret : Option FieldType) (R : Room) (q : Nat × xOp) : Prop :=
  ∀ (p : Program) (l : Launch) (e : Env) (s : State) (m : MethodId) (args : Array Value) (below : List Frame) (meth : Method) (c : Code) (D : va_G) (cA : Nat → ClassId) (ρ : Nat → Nat) (A : Nat → Prop), xCx Ex cl own Ts cc nL ret p l s m args meth c D cA ρ A →
    ∀ (Q : xQ) (J : xF → Prop) (x : xF), x.1 = q.1 → (∀ y, J y → xWW k0 cl R nL p l e s m args below meth c D cA ρ A Q y) → q.2 x J Q → xWW k0 cl R nL p l e s m args below meth c D cA ρ A Q x
theorem xSd.all {k0 : Nat × Nat} {Ex : Code → State → (Nat → Nat) → (Nat → Prop) → Prop} {cl : List vw_C} {own : String} {Ts : List Cond} {cc : ByteArray} {nL : Nat} {ret : Option FieldType} {R : Room} {tb : xT} (hv : ∀ q ∈ tb, xSd k0 Ex cl own Ts cc nL ret R q)
    {p : Program} {l : Launch} {e : Env} {s : State} {m : MethodId} {args : Array Value} {below : List Frame} {meth : Method} {c : Code} {D : va_G} {cA : Nat → ClassId} {ρ : Nat → Nat} {A : Nat → Prop} (X : xCx Ex cl own Ts cc nL ret p l s m args meth c D cA ρ A)
    {Q : xQ} {x : xF} (h : xG tb Q x) : xWW k0 cl R nL p l e s m args below meth c D cA ρ A Q x := by
  refine h _ fun c' J hJ hs => ?_
  unfold xStep at hs
  split at hs
  · exact hs.elim
  · rename_i op hop
    exact hv _ (xlk_mem hop) p l e s m args below meth c D cA ρ A X Q J c' rfl hJ hs
theorem xval_nil {k0 : Nat × Nat} {Ex : Code → State → (Nat → Nat) → (Nat → Prop) → Prop} {cl : List vw_C} {own : String} {Ts : List Cond} {cc : ByteArray} {nL : Nat} {ret : Option FieldType} {R : Room} : ∀ q ∈ ([] : xT), xSd k0 Ex cl own Ts cc nL ret R q := fun q h => by cases h
theorem xval {k0 : Nat × Nat} {Ex : Code → State → (Nat → Nat) → (Nat → Prop) → Prop} {cl : List vw_C} {own : String} {Ts : List Cond} {cc : ByteArray} {nL : Nat} {ret : Option FieldType} {R : Room} {pc : Nat} {op : xOp} {t : xT} (h : xSd k0 Ex cl own Ts cc nL ret R (pc, op)) (ht : ∀ q ∈ t, xSd k0 Ex cl own Ts cc nL ret R q) : ∀ q ∈ (pc, op) :: t, xSd k0 Ex cl own Ts cc nL ret R q := fun q hq => by
  rcases List.mem_cons.mp hq with rfl | hq
  · exact h
  · exact ht q hq

section XS
variable {k0 : Nat × Nat} {Ex : Code → State → (Nat → Nat) → (Nat → Prop) → Prop} {cl : List vw_C} {own : String} {Ts : List Cond} {cc : ByteArray} {nL : Nat} {ret : Option FieldType} {R : Room} {pc : Nat}

def o_i (v : Int32) (len : Nat) : xOp := fun x k _ => k (x.1 + len, x.2.1, .int v :: x.2.2.1, x.2.2.2.1, x.2.2.2.2)
def o_l (v : Int64) (len : Nat) : xOp := fun x k _ => k (x.1 + len, x.2.1, .long v :: x.2.2.1, x.2.2.2.1, x.2.2.2.2)
theorem s_iconst {z : Int} {v : Int32} (hd : decode cc pc = .ok (.iconst z, 1)) (hv : Int32.ofInt z = v) : xSd k0 Ex cl own Ts cc nL ret R (pc, o_i v 1) := by
  intro p l e s m args below meth c D cA ρ A X Q J x hpc hJ ho H locs ls hl hP hD hS
  obtain ⟨pc', L, st, h, n⟩ := x
  obtain rfl : pc' = pc := hpc
  exact lv_iconst X.1 X.2.1 hd hv (hJ _ ho H locs ls hl hP hD hS)
theorem s_bipush {z : Int} {v : Int32} (hd : decode cc pc = .ok (.bipush z, 2)) (hv : (Int8.ofInt z).toInt32 = v) : xSd k0 Ex cl own Ts cc nL ret R (pc, o_i v 2) := by
  intro p l e s m args below meth c D cA ρ A X Q J x hpc hJ ho H locs ls hl hP hD hS
  obtain ⟨pc', L, st, h, n⟩ := x
  obtain rfl : pc' = pc := hpc
  exact lv_bipush X.1 X.2.1 hd hv (hJ _ ho H locs ls hl hP hD hS)
theorem s_sipush {z : Int} {v : Int32} (hd : decode cc pc = .ok (.sipush z, 3)) (hv : (Int16.ofInt z).toInt32 = v) : xSd k0 Ex cl own Ts cc nL ret R (pc, o_i v 3) := by
  intro p l e s m args below meth c D cA ρ A X Q J x hpc hJ ho H locs ls hl hP hD hS
  obtain ⟨pc', L, st, h, n⟩ := x
  obtain rfl : pc' = pc := hpc
  exact lv_sipush X.1 X.2.1 hd hv (hJ _ ho H locs ls hl hP hD hS)
theorem s_lconst {z : Fin 2} {v : Int64} (hd : decode cc pc = .ok (.lconst z, 1)) (hv : Int64.ofNat (z : Nat) = v) : xSd k0 Ex cl own Ts cc nL ret R (pc, o_l v 1) := by
  intro p l e s m args below meth c D cA ρ A X Q J x hpc hJ ho H locs ls hl hP hD hS
  obtain ⟨pc', L, st, h, n⟩ := x
  obtain rfl : pc' = pc := hpc
  exact lv_lconst X.1 X.2.1 hd hv (hJ _ ho H locs ls hl hP hD hS)
theorem s_ldc {i : Nat} {v : Int32} (hd : decode cc pc = .ok (.ldc i, 2)) (hw : Jvm.Cond.constant own i v ∈ Ts) : xSd k0 Ex cl own Ts cc nL ret R (pc, o_i v 2) := by
  intro p l e s m args below meth c D cA ρ A X Q J x hpc hJ ho H locs ls hl hP hD hS
  obtain ⟨pc', L, st, h, n⟩ := x
  obtain rfl : pc' = pc := hpc
  exact lv_ldc X.1 X.2.1 X.2.2.2.2.2.1 (X.2.2.2.2.2.2.1 _ hw) hd (hJ _ ho H locs ls hl hP hD hS)
theorem s_ldc2 {i : Nat} {v : Int64} (hd : decode cc pc = .ok (.ldc2_w i, 3)) (hw : Jvm.Cond.constantLong own i v ∈ Ts) : xSd k0 Ex cl own Ts cc nL ret R (pc, o_l v 3) := by
  intro p l e s m args below meth c D cA ρ A X Q J x hpc hJ ho H locs ls hl hP hD hS
  obtain ⟨pc', L, st, h, n⟩ := x
  obtain rfl : pc' = pc := hpc
  exact lv_ldc2 X.1 X.2.1 X.2.2.2.2.2.1 (X.2.2.2.2.2.2.1 _ hw) hd (hJ _ ho H locs ls hl hP hD hS)
def o_iload (i len : Nat) : xOp := fun x k _ => match x.2.1[i]? with
  | some (some (.int v)) => k (x.1 + len, x.2.1, .int v :: x.2.2.1, x.2.2.2.1, x.2.2.2.2)
  | _ => False
theorem s_iload_n {f : Fin 4} {i : Nat} (hd : decode cc pc = .ok (.iload_n f, 1)) (hi : (f : Nat) = i) : xSd k0 Ex cl own Ts cc nL ret R (pc, o_iload i 1) := by
  intro p l e s m args below meth c D cA ρ A X Q J x hpc hJ ho H locs ls hl hP hD hS
  obtain ⟨pc', L, st, h, n⟩ := x
  obtain rfl : pc' = pc := hpc
  dsimp only [o_iload] at ho
  split at ho
  · rename_i v hv
    exact lv_iload_n X.1 X.2.1 hd hi (xla_at hl hv) (hJ _ ho H locs ls hl hP hD hS)
  · exact ho.elim
theorem s_iload {i : Nat} (hd : decode cc pc = .ok (.iload i, 2)) : xSd k0 Ex cl own Ts cc nL ret R (pc, o_iload i 2) := by
  intro p l e s m args below meth c D cA ρ A X Q J x hpc hJ ho H locs ls hl hP hD hS
  obtain ⟨pc', L, st, h, n⟩ := x
  obtain rfl : pc' = pc := hpc
  dsimp only [o_iload] at ho
  split at ho
  · rename_i v hv
    exact lv_iload X.1 X.2.1 hd (xla_at hl hv) (hJ _ ho H locs ls hl hP hD hS)
  · exact ho.elim
def o_lload (i len : Nat) : xOp := fun x k _ => match x.2.1[i]? with
  | some (some (.long v)) => k (x.1 + len, x.2.1, .long v :: x.2.2.1, x.2.2.2.1, x.2.2.2.2)
  | _ => False
theorem s_lload_n {f : Fin 4} {i : Nat} (hd : decode cc pc = .ok (.lload_n f, 1)) (hi : (f : Nat) = i) : xSd k0 Ex cl own Ts cc nL ret R (pc, o_lload i 1) := by
  intro p l e s m args below meth c D cA ρ A X Q J x hpc hJ ho H locs ls hl hP hD hS
  obtain ⟨pc', L, st, h, n⟩ := x
  obtain rfl : pc' = pc := hpc
  dsimp only [o_lload] at ho
  split at ho
  · rename_i v hv
    exact lv_lload_n X.1 X.2.1 hd hi (xla_at hl hv) (hJ _ ho H locs ls hl hP hD hS)
  · exact ho.elim
theorem s_lload {i : Nat} (hd : decode cc pc = .ok (.lload i, 2)) : xSd k0 Ex cl own Ts cc nL ret R (pc, o_lload i 2) := by
  intro p l e s m args below meth c D cA ρ A X Q J x hpc hJ ho H locs ls hl hP hD hS
  obtain ⟨pc', L, st, h, n⟩ := x
  obtain rfl : pc' = pc := hpc
  dsimp only [o_lload] at ho
  split at ho
  · rename_i v hv
    exact lv_lload X.1 X.2.1 hd (xla_at hl hv) (hJ _ ho H locs ls hl hP hD hS)
  · exact ho.elim
def o_aload (i len : Nat) : xOp := fun x k _ => match x.2.1[i]? with
  | some (some (.ref v)) => k (x.1 + len, x.2.1, .ref v :: x.2.2.1, x.2.2.2.1, x.2.2.2.2)
  | _ => False
theorem s_aload_n {f : Fin 4} {i : Nat} (hd : decode cc pc = .ok (.aload_n f, 1)) (hi : (f : Nat) = i) : xSd k0 Ex cl own Ts cc nL ret R (pc, o_aload i 1) := by
  intro p l e s m args below meth c D cA ρ A X Q J x hpc hJ ho H locs ls hl hP hD hS
  obtain ⟨pc', L, st, h, n⟩ := x
  obtain rfl : pc' = pc := hpc
  dsimp only [o_aload] at ho
  split at ho
  · rename_i v hv
    exact lv_aload_n X.1 X.2.1 hd hi (xla_at hl hv) (hJ _ ho H locs ls hl hP hD hS)
  · exact ho.elim
theorem s_aload {i : Nat} (hd : decode cc pc = .ok (.aload i, 2)) : xSd k0 Ex cl own Ts cc nL ret R (pc, o_aload i 2) := by
  intro p l e s m args below meth c D cA ρ A X Q J x hpc hJ ho H locs ls hl hP hD hS
  obtain ⟨pc', L, st, h, n⟩ := x
  obtain rfl : pc' = pc := hpc
  dsimp only [o_aload] at ho
  split at ho
  · rename_i v hv
    exact lv_aload X.1 X.2.1 hd (xla_at hl hv) (hJ _ ho H locs ls hl hP hD hS)
  · exact ho.elim
def o_istore (i len : Nat) : xOp := fun x k _ => match x.2.2.1 with
  | .int v :: r => k (x.1 + len, xset i (.int v) 0 x.2.1, r, x.2.2.2.1, x.2.2.2.2)
  | _ => False
theorem s_istore_n {f : Fin 4} {i : Nat} (hd : decode cc pc = .ok (.istore_n f, 1)) (hi : (f : Nat) = i) (hn : i < nL) : xSd k0 Ex cl own Ts cc nL ret R (pc, o_istore i 1) := by
  intro p l e s m args below meth c D cA ρ A X Q J x hpc hJ ho H locs ls hl hP hD hS
  obtain ⟨pc', L, st, h, n⟩ := x
  obtain rfl : pc' = pc := hpc
  dsimp only [o_istore] at ho
  split at ho
  · rename_i v r
    exact lv_istore_n X.1 X.2.1 hd hi hl hn rfl (fun ls' hl' => hJ _ ho H locs ls' (xset_lv (v := .int v) hl') hP hD hS)
  · exact ho.elim
theorem s_istore {i : Nat} (hd : decode cc pc = .ok (.istore i, 2)) (hn : i < nL) : xSd k0 Ex cl own Ts cc nL ret R (pc, o_istore i 2) := by
  intro p l e s m args below meth c D cA ρ A X Q J x hpc hJ ho H locs ls hl hP hD hS
  obtain ⟨pc', L, st, h, n⟩ := x
  obtain rfl : pc' = pc := hpc
  dsimp only [o_istore] at ho
  split at ho
  · rename_i v r
    exact lv_istore X.1 X.2.1 hd hl hn rfl (fun ls' hl' => hJ _ ho H locs ls' (xset_lv (v := .int v) hl') hP hD hS)
  · exact ho.elim
def o_astore (i len : Nat) : xOp := fun x k _ => match x.2.2.1 with
  | .ref v :: r => k (x.1 + len, xset i (.ref v) 0 x.2.1, r, x.2.2.2.1, x.2.2.2.2)
  | _ => False
theorem s_astore_n {f : Fin 4} {i : Nat} (hd : decode cc pc = .ok (.astore_n f, 1)) (hi : (f : Nat) = i) (hn : i < nL) : xSd k0 Ex cl own Ts cc nL ret R (pc, o_astore i 1) := by
  intro p l e s m args below meth c D cA ρ A X Q J x hpc hJ ho H locs ls hl hP hD hS
  obtain ⟨pc', L, st, h, n⟩ := x
  obtain rfl : pc' = pc := hpc
  dsimp only [o_astore] at ho
  split at ho
  · rename_i v r
    exact lv_astore_n X.1 X.2.1 hd hi hl hn rfl (fun ls' hl' => hJ _ ho H locs ls' (xset_lv (v := .ref v) hl') hP hD hS)
  · exact ho.elim
theorem s_astore {i : Nat} (hd : decode cc pc = .ok (.astore i, 2)) (hn : i < nL) : xSd k0 Ex cl own Ts cc nL ret R (pc, o_astore i 2) := by
  intro p l e s m args below meth c D cA ρ A X Q J x hpc hJ ho H locs ls hl hP hD hS
  obtain ⟨pc', L, st, h, n⟩ := x
  obtain rfl : pc' = pc := hpc
  dsimp only [o_astore] at ho
  split at ho
  · rename_i v r
    exact lv_astore X.1 X.2.1 hd hl hn rfl (fun ls' hl' => hJ _ ho H locs ls' (xset_lv (v := .ref v) hl') hP hD hS)
  · exact ho.elim
def o_lstore (i len : Nat) : xOp := fun x k _ => match x.2.2.1 with
  | .long v :: r => k (x.1 + len, xset2 i (.long v) 0 x.2.1, r, x.2.2.2.1, x.2.2.2.2)
  | _ => False
theorem s_lstore_n {f : Fin 4} {i : Nat} (hd : decode cc pc = .ok (.lstore_n f, 1)) (hi : (f : Nat) = i) (hn : i + 1 < nL) : xSd k0 Ex cl own Ts cc nL ret R (pc, o_lstore i 1) := by
  intro p l e s m args below meth c D cA ρ A X Q J x hpc hJ ho H locs ls hl hP hD hS
  obtain ⟨pc', L, st, h, n⟩ := x
  obtain rfl : pc' = pc := hpc
  dsimp only [o_lstore] at ho
  split at ho
  · rename_i v r
    exact lv_lstore_n X.1 X.2.1 hd hi hl hn rfl (fun ls' hl' => hJ _ ho H locs ls' (xset2_lv (v := .long v) hl') hP hD hS)
  · exact ho.elim
theorem s_lstore {i : Nat} (hd : decode cc pc = .ok (.lstore i, 2)) (hn : i + 1 < nL) : xSd k0 Ex cl own Ts cc nL ret R (pc, o_lstore i 2) := by
  intro p l e s m args below meth c D cA ρ A X Q J x hpc hJ ho H locs ls hl hP hD hS
  obtain ⟨pc', L, st, h, n⟩ := x
  obtain rfl : pc' = pc := hpc
  dsimp only [o_lstore] at ho
  split at ho
  · rename_i v r
    exact lv_lstore X.1 X.2.1 hd hl hn rfl (fun ls' hl' => hJ _ ho H locs ls' (xset2_lv (v := .long v) hl') hP hD hS)
  · exact ho.elim
def o_iinc (i : Nat) (z : Int32) : xOp := fun x k _ => match x.2.1[i]? with
  | some (some (.int v)) => k (x.1 + 3, xset i (.int (v + z)) 0 x.2.1, x.2.2.1, x.2.2.2.1, x.2.2.2.2)
  | _ => False
theorem s_iinc {i : Nat} {z : Int} {w : Int32} (hd : decode cc pc = .ok (.iinc i z, 3)) (hw : Int32.ofInt z = w) (hn : i < nL) : xSd k0 Ex cl own Ts cc nL ret R (pc, o_iinc i w) := by
  intro p l e s m args below meth c D cA ρ A X Q J x hpc hJ ho H locs ls hl hP hD hS
  obtain ⟨pc', L, st, h, n⟩ := x
  obtain rfl : pc' = pc := hpc
  subst hw
  dsimp only [o_iinc] at ho
  split at ho
  · rename_i v hv
    obtain ⟨j, hj⟩ := List.getElem?_of_mem ((xla_mem (ρ := ρ) L 0 (i, .int v)).mpr ⟨i, .int v, hv, by simp [xv]⟩)
    exact lv_iinc X.1 X.2.1 hd hl hj rfl hn rfl (fun ls' hl' => hJ _ ho H locs ls' (xset_lv (v := .int _) hl') hP hD hS)
  · exact ho.elim
def o_ii (f : Int32 → Int32 → Int32) : xOp := fun x k _ => match x.2.2.1 with
  | .int b :: .int a :: r => k (x.1 + 1, x.2.1, .int (f a b) :: r, x.2.2.2.1, x.2.2.2.2)
  | _ => False
def o_ll (f : Int64 → Int64 → Int64) : xOp := fun x k _ => match x.2.2.1 with
  | .long b :: .long a :: r => k (x.1 + 1, x.2.1, .long (f a b) :: r, x.2.2.2.1, x.2.2.2.2)
  | _ => False
theorem s_iadd (hd : decode cc pc = .ok (.iadd, 1)) : xSd k0 Ex cl own Ts cc nL ret R (pc, o_ii (fun a b => a + b)) := by
  intro p l e s m args below meth c D cA ρ A X Q J x hpc hJ ho H locs ls hl hP hD hS
  obtain ⟨pc', L, st, h, n⟩ := x
  obtain rfl : pc' = pc := hpc
  dsimp only [o_ii] at ho
  split at ho
  · rename_i b a r
    exact lv_iadd X.1 X.2.1 hd (hJ _ ho H locs ls hl hP hD hS)
  · exact ho.elim
theorem s_isub (hd : decode cc pc = .ok (.isub, 1)) : xSd k0 Ex cl own Ts cc nL ret R (pc, o_ii (fun a b => a - b)) := by
  intro p l e s m args below meth c D cA ρ A X Q J x hpc hJ ho H locs ls hl hP hD hS
  obtain ⟨pc', L, st, h, n⟩ := x
  obtain rfl : pc' = pc := hpc
  dsimp only [o_ii] at ho
  split at ho
  · rename_i b a r
    exact lv_isub X.1 X.2.1 hd (hJ _ ho H locs ls hl hP hD hS)
  · exact ho.elim
theorem s_imul (hd : decode cc pc = .ok (.imul, 1)) : xSd k0 Ex cl own Ts cc nL ret R (pc, o_ii (fun a b => a * b)) := by
  intro p l e s m args below meth c D cA ρ A X Q J x hpc hJ ho H locs ls hl hP hD hS
  obtain ⟨pc', L, st, h, n⟩ := x
  obtain rfl : pc' = pc := hpc
  dsimp only [o_ii] at ho
  split at ho
  · rename_i b a r
    exact lv_imul X.1 X.2.1 hd (hJ _ ho H locs ls hl hP hD hS)
  · exact ho.elim
theorem s_iand (hd : decode cc pc = .ok (.iand, 1)) : xSd k0 Ex cl own Ts cc nL ret R (pc, o_ii (fun a b => a &&& b)) := by
  intro p l e s m args below meth c D cA ρ A X Q J x hpc hJ ho H locs ls hl hP hD hS
  obtain ⟨pc', L, st, h, n⟩ := x
  obtain rfl : pc' = pc := hpc
  dsimp only [o_ii] at ho
  split at ho
  · rename_i b a r
    exact lv_iand X.1 X.2.1 hd (hJ _ ho H locs ls hl hP hD hS)
  · exact ho.elim
theorem s_ior (hd : decode cc pc = .ok (.ior, 1)) : xSd k0 Ex cl own Ts cc nL ret R (pc, o_ii (fun a b => a ||| b)) := by
  intro p l e s m args below meth c D cA ρ A X Q J x hpc hJ ho H locs ls hl hP hD hS
  obtain ⟨pc', L, st, h, n⟩ := x
  obtain rfl : pc' = pc := hpc
  dsimp only [o_ii] at ho
  split at ho
  · rename_i b a r
    exact lv_ior X.1 X.2.1 hd (hJ _ ho H locs ls hl hP hD hS)
  · exact ho.elim
theorem s_ixor (hd : decode cc pc = .ok (.ixor, 1)) : xSd k0 Ex cl own Ts cc nL ret R (pc, o_ii (fun a b => a ^^^ b)) := by
  intro p l e s m args below meth c D cA ρ A X Q J x hpc hJ ho H locs ls hl hP hD hS
  obtain ⟨pc', L, st, h, n⟩ := x
  obtain rfl : pc' = pc := hpc
  dsimp only [o_ii] at ho
  split at ho
  · rename_i b a r
    exact lv_ixor X.1 X.2.1 hd (hJ _ ho H locs ls hl hP hD hS)
  · exact ho.elim
theorem s_ishl (hd : decode cc pc = .ok (.ishl, 1)) : xSd k0 Ex cl own Ts cc nL ret R (pc, o_ii (fun a b => a <<< (b &&& 31))) := by
  intro p l e s m args below meth c D cA ρ A X Q J x hpc hJ ho H locs ls hl hP hD hS
  obtain ⟨pc', L, st, h, n⟩ := x
  obtain rfl : pc' = pc := hpc
  dsimp only [o_ii] at ho
  split at ho
  · rename_i b a r
    exact lv_ishl X.1 X.2.1 hd (hJ _ ho H locs ls hl hP hD hS)
  · exact ho.elim
theorem s_ishr (hd : decode cc pc = .ok (.ishr, 1)) : xSd k0 Ex cl own Ts cc nL ret R (pc, o_ii (fun a b => a >>> (b &&& 31))) := by
  intro p l e s m args below meth c D cA ρ A X Q J x hpc hJ ho H locs ls hl hP hD hS
  obtain ⟨pc', L, st, h, n⟩ := x
  obtain rfl : pc' = pc := hpc
  dsimp only [o_ii] at ho
  split at ho
  · rename_i b a r
    exact lv_ishr X.1 X.2.1 hd (hJ _ ho H locs ls hl hP hD hS)
  · exact ho.elim
theorem s_ladd (hd : decode cc pc = .ok (.ladd, 1)) : xSd k0 Ex cl own Ts cc nL ret R (pc, o_ll (fun a b => a + b)) := by
  intro p l e s m args below meth c D cA ρ A X Q J x hpc hJ ho H locs ls hl hP hD hS
  obtain ⟨pc', L, st, h, n⟩ := x
  obtain rfl : pc' = pc := hpc
  dsimp only [o_ll] at ho
  split at ho
  · rename_i b a r
    exact lv_ladd X.1 X.2.1 hd (hJ _ ho H locs ls hl hP hD hS)
  · exact ho.elim
theorem s_lsub (hd : decode cc pc = .ok (.lsub, 1)) : xSd k0 Ex cl own Ts cc nL ret R (pc, o_ll (fun a b => a - b)) := by
  intro p l e s m args below meth c D cA ρ A X Q J x hpc hJ ho H locs ls hl hP hD hS
  obtain ⟨pc', L, st, h, n⟩ := x
  obtain rfl : pc' = pc := hpc
  dsimp only [o_ll] at ho
  split at ho
  · rename_i b a r
    exact lv_lsub X.1 X.2.1 hd (hJ _ ho H locs ls hl hP hD hS)
  · exact ho.elim
theorem s_lmul (hd : decode cc pc = .ok (.lmul, 1)) : xSd k0 Ex cl own Ts cc nL ret R (pc, o_ll (fun a b => a * b)) := by
  intro p l e s m args below meth c D cA ρ A X Q J x hpc hJ ho H locs ls hl hP hD hS
  obtain ⟨pc', L, st, h, n⟩ := x
  obtain rfl : pc' = pc := hpc
  dsimp only [o_ll] at ho
  split at ho
  · rename_i b a r
    exact lv_lmul X.1 X.2.1 hd (hJ _ ho H locs ls hl hP hD hS)
  · exact ho.elim
theorem s_land (hd : decode cc pc = .ok (.land, 1)) : xSd k0 Ex cl own Ts cc nL ret R (pc, o_ll (fun a b => a &&& b)) := by
  intro p l e s m args below meth c D cA ρ A X Q J x hpc hJ ho H locs ls hl hP hD hS
  obtain ⟨pc', L, st, h, n⟩ := x
  obtain rfl : pc' = pc := hpc
  dsimp only [o_ll] at ho
  split at ho
  · rename_i b a r
    exact lv_land X.1 X.2.1 hd (hJ _ ho H locs ls hl hP hD hS)
  · exact ho.elim
theorem s_lor (hd : decode cc pc = .ok (.lor, 1)) : xSd k0 Ex cl own Ts cc nL ret R (pc, o_ll (fun a b => a ||| b)) := by
  intro p l e s m args below meth c D cA ρ A X Q J x hpc hJ ho H locs ls hl hP hD hS
  obtain ⟨pc', L, st, h, n⟩ := x
  obtain rfl : pc' = pc := hpc
  dsimp only [o_ll] at ho
  split at ho
  · rename_i b a r
    exact lv_lor X.1 X.2.1 hd (hJ _ ho H locs ls hl hP hD hS)
  · exact ho.elim
theorem s_lxor (hd : decode cc pc = .ok (.lxor, 1)) : xSd k0 Ex cl own Ts cc nL ret R (pc, o_ll (fun a b => a ^^^ b)) := by
  intro p l e s m args below meth c D cA ρ A X Q J x hpc hJ ho H locs ls hl hP hD hS
  obtain ⟨pc', L, st, h, n⟩ := x
  obtain rfl : pc' = pc := hpc
  dsimp only [o_ll] at ho
  split at ho
  · rename_i b a r
    exact lv_lxor X.1 X.2.1 hd (hJ _ ho H locs ls hl hP hD hS)
  · exact ho.elim
def o_dr (f : Int32 → Int32 → Int32) : xOp := fun x k _ => match x.2.2.1 with
  | .int b :: .int a :: r => ¬ b = 0 ∧ k (x.1 + 1, x.2.1, .int (f a b) :: r, x.2.2.2.1, x.2.2.2.2)
  | _ => False
theorem s_idiv (hd : decode cc pc = .ok (.idiv, 1)) : xSd k0 Ex cl own Ts cc nL ret R (pc, o_dr (fun a b => a / b)) := by
  intro p l e s m args below meth c D cA ρ A X Q J x hpc hJ ho H locs ls hl hP hD hS
  obtain ⟨pc', L, st, h, n⟩ := x
  obtain rfl : pc' = pc := hpc
  dsimp only [o_dr] at ho
  split at ho
  · rename_i b a r
    exact lv_idiv X.1 X.2.1 hd ho.1 (hJ _ ho.2 H locs ls hl hP hD hS)
  · exact ho.elim
theorem s_irem (hd : decode cc pc = .ok (.irem, 1)) : xSd k0 Ex cl own Ts cc nL ret R (pc, o_dr (fun a b => a - a / b * b)) := by
  intro p l e s m args below meth c D cA ρ A X Q J x hpc hJ ho H locs ls hl hP hD hS
  obtain ⟨pc', L, st, h, n⟩ := x
  obtain rfl : pc' = pc := hpc
  dsimp only [o_dr] at ho
  split at ho
  · rename_i b a r
    exact lv_irem X.1 X.2.1 hd ho.1 (hJ _ ho.2 H locs ls hl hP hD hS)
  · exact ho.elim
def xushr (a : Int64) (b : Int32) : Int64 := (a.toUInt64 >>> (b.toInt64.toUInt64 &&& Int64.toUInt64 63)).toInt64
def xshl (a : Int64) (b : Int32) : Int64 := a <<< (b.toInt64 &&& 63)
def o_li (f : Int64 → Int32 → Int64) : xOp := fun x k _ => match x.2.2.1 with
  | .int b :: .long a :: r => k (x.1 + 1, x.2.1, .long (f a b) :: r, x.2.2.2.1, x.2.2.2.2)
  | _ => False
theorem s_lushr (hd : decode cc pc = .ok (.lushr, 1)) : xSd k0 Ex cl own Ts cc nL ret R (pc, o_li xushr) := by
  intro p l e s m args below meth c D cA ρ A X Q J x hpc hJ ho H locs ls hl hP hD hS
  obtain ⟨pc', L, st, h, n⟩ := x
  obtain rfl : pc' = pc := hpc
  dsimp only [o_li] at ho
  split at ho
  · rename_i b a r
    exact lv_lushr X.1 X.2.1 hd rfl (hJ _ ho H locs ls hl hP hD hS)
  · exact ho.elim
theorem s_lshl (hd : decode cc pc = .ok (.lshl, 1)) : xSd k0 Ex cl own Ts cc nL ret R (pc, o_li xshl) := by
  intro p l e s m args below meth c D cA ρ A X Q J x hpc hJ ho H locs ls hl hP hD hS
  obtain ⟨pc', L, st, h, n⟩ := x
  obtain rfl : pc' = pc := hpc
  dsimp only [o_li] at ho
  split at ho
  · rename_i b a r
    exact lv_lshl X.1 X.2.1 hd rfl (hJ _ ho H locs ls hl hP hD hS)
  · exact ho.elim
def o_i2l : xOp := fun x k _ => match x.2.2.1 with
  | .int a :: r => k (x.1 + 1, x.2.1, .long a.toInt64 :: r, x.2.2.2.1, x.2.2.2.2)
  | _ => False
theorem s_i2l (hd : decode cc pc = .ok (.i2l, 1)) : xSd k0 Ex cl own Ts cc nL ret R (pc, o_i2l) := by
  intro p l e s m args below meth c D cA ρ A X Q J x hpc hJ ho H locs ls hl hP hD hS
  obtain ⟨pc', L, st, h, n⟩ := x
  obtain rfl : pc' = pc := hpc
  dsimp only [o_i2l] at ho
  split at ho
  · rename_i a r
    exact lv_i2l X.1 X.2.1 hd rfl (hJ _ ho H locs ls hl hP hD hS)
  · exact ho.elim
def o_l2i : xOp := fun x k _ => match x.2.2.1 with
  | .long a :: r => k (x.1 + 1, x.2.1, .int a.toInt32 :: r, x.2.2.2.1, x.2.2.2.2)
  | _ => False
theorem s_l2i (hd : decode cc pc = .ok (.l2i, 1)) : xSd k0 Ex cl own Ts cc nL ret R (pc, o_l2i) := by
  intro p l e s m args below meth c D cA ρ A X Q J x hpc hJ ho H locs ls hl hP hD hS
  obtain ⟨pc', L, st, h, n⟩ := x
  obtain rfl : pc' = pc := hpc
  dsimp only [o_l2i] at ho
  split at ho
  · rename_i a r
    exact lv_l2i X.1 X.2.1 hd rfl (hJ _ ho H locs ls hl hP hD hS)
  · exact ho.elim
def o_lcmp : xOp := fun x k _ => match x.2.2.1 with
  | .long b :: .long a :: r => k (x.1 + 1, x.2.1, .int (lg_cmp a b) :: r, x.2.2.2.1, x.2.2.2.2)
  | _ => False
theorem s_lcmp (hd : decode cc pc = .ok (.lcmp, 1)) : xSd k0 Ex cl own Ts cc nL ret R (pc, o_lcmp) := by
  intro p l e s m args below meth c D cA ρ A X Q J x hpc hJ ho H locs ls hl hP hD hS
  obtain ⟨pc', L, st, h, n⟩ := x
  obtain rfl : pc' = pc := hpc
  dsimp only [o_lcmp] at ho
  split at ho
  · rename_i b a r
    exact W.lcmp X.1 X.2.1 hd (hJ _ ho H locs ls hl hP hD hS)
  · exact ho.elim
def o_if (c : Int32 → Prop) (tgt : Nat) : xOp := fun x k _ => match x.2.2.1 with
  | .int a :: r => (c a → k (tgt, x.2.1, r, x.2.2.2.1, x.2.2.2.2)) ∧ (¬ c a → k (x.1 + 3, x.2.1, r, x.2.2.2.1, x.2.2.2.2))
  | _ => False
def o_ic (c : Int32 → Int32 → Prop) (tgt : Nat) : xOp := fun x k _ => match x.2.2.1 with
  | .int b :: .int a :: r => (c a b → k (tgt, x.2.1, r, x.2.2.2.1, x.2.2.2.2)) ∧ (¬ c a b → k (x.1 + 3, x.2.1, r, x.2.2.2.1, x.2.2.2.2))
  | _ => False
def o_ifn (c : Int32 → Prop) (tgt : Nat) : xOp := fun x k _ => match x.2.2.1 with
  | .int a :: r => (c a → k (x.1 + 3, x.2.1, r, x.2.2.2.1, x.2.2.2.2)) ∧ (¬ c a → k (tgt, x.2.1, r, x.2.2.2.1, x.2.2.2.2))
  | _ => False
def o_icn (c : Int32 → Int32 → Prop) (tgt : Nat) : xOp := fun x k _ => match x.2.2.1 with
  | .int b :: .int a :: r => (c a b → k (x.1 + 3, x.2.1, r, x.2.2.2.1, x.2.2.2.2)) ∧ (¬ c a b → k (tgt, x.2.1, r, x.2.2.2.1, x.2.2.2.2))
  | _ => False
theorem s_ifeq {z : Int} {tgt : Nat} (hd : decode cc pc = .ok (.ifCond .eq z, 3)) (ht : (pc : Int) + z = (tgt : Int)) : xSd k0 Ex cl own Ts cc nL ret R (pc, o_if (fun a => a = 0) tgt) := by
  intro p l e s m args below meth c D cA ρ A X Q J x hpc hJ ho H locs ls hl hP hD hS
  obtain ⟨pc', L, st, h, n⟩ := x
  obtain rfl : pc' = pc := hpc
  dsimp only [o_if] at ho
  split at ho
  · rename_i a r
    exact lv_if_eq X.1 X.2.1 hd ht (fun q => hJ _ (ho.1 q) H locs ls hl hP hD hS) (fun q => hJ _ (ho.2 q) H locs ls hl hP hD hS)
  · exact ho.elim
theorem s_iceq {z : Int} {tgt : Nat} (hd : decode cc pc = .ok (.if_icmp .eq z, 3)) (ht : (pc : Int) + z = (tgt : Int)) : xSd k0 Ex cl own Ts cc nL ret R (pc, o_ic (fun a b => a = b) tgt) := by
  intro p l e s m args below meth c D cA ρ A X Q J x hpc hJ ho H locs ls hl hP hD hS
  obtain ⟨pc', L, st, h, n⟩ := x
  obtain rfl : pc' = pc := hpc
  dsimp only [o_ic] at ho
  split at ho
  · rename_i b a r
    exact lv_icmp_eq X.1 X.2.1 hd ht (fun q => hJ _ (ho.1 q) H locs ls hl hP hD hS) (fun q => hJ _ (ho.2 q) H locs ls hl hP hD hS)
  · exact ho.elim
theorem s_iflt {z : Int} {tgt : Nat} (hd : decode cc pc = .ok (.ifCond .lt z, 3)) (ht : (pc : Int) + z = (tgt : Int)) : xSd k0 Ex cl own Ts cc nL ret R (pc, o_if (fun a => a < 0) tgt) := by
  intro p l e s m args below meth c D cA ρ A X Q J x hpc hJ ho H locs ls hl hP hD hS
  obtain ⟨pc', L, st, h, n⟩ := x
  obtain rfl : pc' = pc := hpc
  dsimp only [o_if] at ho
  split at ho
  · rename_i a r
    exact lv_if_lt X.1 X.2.1 hd ht (fun q => hJ _ (ho.1 q) H locs ls hl hP hD hS) (fun q => hJ _ (ho.2 q) H locs ls hl hP hD hS)
  · exact ho.elim
theorem s_iclt {z : Int} {tgt : Nat} (hd : decode cc pc = .ok (.if_icmp .lt z, 3)) (ht : (pc : Int) + z = (tgt : Int)) : xSd k0 Ex cl own Ts cc nL ret R (pc, o_ic (fun a b => a < b) tgt) := by
  intro p l e s m args below meth c D cA ρ A X Q J x hpc hJ ho H locs ls hl hP hD hS
  obtain ⟨pc', L, st, h, n⟩ := x
  obtain rfl : pc' = pc := hpc
  dsimp only [o_ic] at ho
  split at ho
  · rename_i b a r
    exact lv_icmp_lt X.1 X.2.1 hd ht (fun q => hJ _ (ho.1 q) H locs ls hl hP hD hS) (fun q => hJ _ (ho.2 q) H locs ls hl hP hD hS)
  · exact ho.elim
theorem s_ifge {z : Int} {tgt : Nat} (hd : decode cc pc = .ok (.ifCond .ge z, 3)) (ht : (pc : Int) + z = (tgt : Int)) : xSd k0 Ex cl own Ts cc nL ret R (pc, o_if (fun a => 0 ≤ a) tgt) := by
  intro p l e s m args below meth c D cA ρ A X Q J x hpc hJ ho H locs ls hl hP hD hS
  obtain ⟨pc', L, st, h, n⟩ := x
  obtain rfl : pc' = pc := hpc
  dsimp only [o_if] at ho
  split at ho
  · rename_i a r
    exact lv_if_ge X.1 X.2.1 hd ht (fun q => hJ _ (ho.1 q) H locs ls hl hP hD hS) (fun q => hJ _ (ho.2 q) H locs ls hl hP hD hS)
  · exact ho.elim
theorem s_icge {z : Int} {tgt : Nat} (hd : decode cc pc = .ok (.if_icmp .ge z, 3)) (ht : (pc : Int) + z = (tgt : Int)) : xSd k0 Ex cl own Ts cc nL ret R (pc, o_ic (fun a b => b ≤ a) tgt) := by
  intro p l e s m args below meth c D cA ρ A X Q J x hpc hJ ho H locs ls hl hP hD hS
  obtain ⟨pc', L, st, h, n⟩ := x
  obtain rfl : pc' = pc := hpc
  dsimp only [o_ic] at ho
  split at ho
  · rename_i b a r
    exact lv_icmp_ge X.1 X.2.1 hd ht (fun q => hJ _ (ho.1 q) H locs ls hl hP hD hS) (fun q => hJ _ (ho.2 q) H locs ls hl hP hD hS)
  · exact ho.elim
theorem s_ifgt {z : Int} {tgt : Nat} (hd : decode cc pc = .ok (.ifCond .gt z, 3)) (ht : (pc : Int) + z = (tgt : Int)) : xSd k0 Ex cl own Ts cc nL ret R (pc, o_if (fun a => 0 < a) tgt) := by
  intro p l e s m args below meth c D cA ρ A X Q J x hpc hJ ho H locs ls hl hP hD hS
  obtain ⟨pc', L, st, h, n⟩ := x
  obtain rfl : pc' = pc := hpc
  dsimp only [o_if] at ho
  split at ho
  · rename_i a r
    exact lv_if_gt X.1 X.2.1 hd ht (fun q => hJ _ (ho.1 q) H locs ls hl hP hD hS) (fun q => hJ _ (ho.2 q) H locs ls hl hP hD hS)
  · exact ho.elim
theorem s_icgt {z : Int} {tgt : Nat} (hd : decode cc pc = .ok (.if_icmp .gt z, 3)) (ht : (pc : Int) + z = (tgt : Int)) : xSd k0 Ex cl own Ts cc nL ret R (pc, o_ic (fun a b => b < a) tgt) := by
  intro p l e s m args below meth c D cA ρ A X Q J x hpc hJ ho H locs ls hl hP hD hS
  obtain ⟨pc', L, st, h, n⟩ := x
  obtain rfl : pc' = pc := hpc
  dsimp only [o_ic] at ho
  split at ho
  · rename_i b a r
    exact lv_icmp_gt X.1 X.2.1 hd ht (fun q => hJ _ (ho.1 q) H locs ls hl hP hD hS) (fun q => hJ _ (ho.2 q) H locs ls hl hP hD hS)
  · exact ho.elim
theorem s_ifle {z : Int} {tgt : Nat} (hd : decode cc pc = .ok (.ifCond .le z, 3)) (ht : (pc : Int) + z = (tgt : Int)) : xSd k0 Ex cl own Ts cc nL ret R (pc, o_if (fun a => a ≤ 0) tgt) := by
  intro p l e s m args below meth c D cA ρ A X Q J x hpc hJ ho H locs ls hl hP hD hS
  obtain ⟨pc', L, st, h, n⟩ := x
  obtain rfl : pc' = pc := hpc
  dsimp only [o_if] at ho
  split at ho
  · rename_i a r
    exact lv_if_le X.1 X.2.1 hd ht (fun q => hJ _ (ho.1 q) H locs ls hl hP hD hS) (fun q => hJ _ (ho.2 q) H locs ls hl hP hD hS)
  · exact ho.elim
theorem s_icle {z : Int} {tgt : Nat} (hd : decode cc pc = .ok (.if_icmp .le z, 3)) (ht : (pc : Int) + z = (tgt : Int)) : xSd k0 Ex cl own Ts cc nL ret R (pc, o_ic (fun a b => a ≤ b) tgt) := by
  intro p l e s m args below meth c D cA ρ A X Q J x hpc hJ ho H locs ls hl hP hD hS
  obtain ⟨pc', L, st, h, n⟩ := x
  obtain rfl : pc' = pc := hpc
  dsimp only [o_ic] at ho
  split at ho
  · rename_i b a r
    exact lv_icmp_le X.1 X.2.1 hd ht (fun q => hJ _ (ho.1 q) H locs ls hl hP hD hS) (fun q => hJ _ (ho.2 q) H locs ls hl hP hD hS)
  · exact ho.elim
theorem s_ifne {z : Int} {tgt : Nat} (hd : decode cc pc = .ok (.ifCond .ne z, 3)) (ht : (pc : Int) + z = (tgt : Int)) : xSd k0 Ex cl own Ts cc nL ret R (pc, o_ifn (fun a => a = 0) tgt) := by
  intro p l e s m args below meth c D cA ρ A X Q J x hpc hJ ho H locs ls hl hP hD hS
  obtain ⟨pc', L, st, h, n⟩ := x
  obtain rfl : pc' = pc := hpc
  dsimp only [o_ifn] at ho
  split at ho
  · rename_i a r
    exact lv_if_ne X.1 X.2.1 hd ht (fun q => hJ _ (ho.2 q) H locs ls hl hP hD hS) (fun q => hJ _ (ho.1 q) H locs ls hl hP hD hS)
  · exact ho.elim
theorem s_icne {z : Int} {tgt : Nat} (hd : decode cc pc = .ok (.if_icmp .ne z, 3)) (ht : (pc : Int) + z = (tgt : Int)) : xSd k0 Ex cl own Ts cc nL ret R (pc, o_icn (fun a b => a = b) tgt) := by
  intro p l e s m args below meth c D cA ρ A X Q J x hpc hJ ho H locs ls hl hP hD hS
  obtain ⟨pc', L, st, h, n⟩ := x
  obtain rfl : pc' = pc := hpc
  dsimp only [o_icn] at ho
  split at ho
  · rename_i b a r
    exact lv_icmp_ne X.1 X.2.1 hd ht (fun q => hJ _ (ho.2 q) H locs ls hl hP hD hS) (fun q => hJ _ (ho.1 q) H locs ls hl hP hD hS)
  · exact ho.elim
def o_goto (tgt : Nat) : xOp := fun x k _ => k (tgt, x.2.1, x.2.2.1, x.2.2.2.1, x.2.2.2.2)
theorem s_goto {z : Int} {tgt : Nat} (hd : decode cc pc = .ok (.goto z, 3)) (ht : (pc : Int) + z = (tgt : Int)) : xSd k0 Ex cl own Ts cc nL ret R (pc, o_goto tgt) := by
  intro p l e s m args below meth c D cA ρ A X Q J x hpc hJ ho H locs ls hl hP hD hS
  obtain ⟨pc', L, st, h, n⟩ := x
  obtain rfl : pc' = pc := hpc
  exact lv_goto X.1 X.2.1 hd ht (hJ _ ho H locs ls hl hP hD hS)
def o_dup : xOp := fun x k _ => match x.2.2.1 with
  | a :: r => bif Nat.beq a.category 1 then k (x.1 + 1, x.2.1, a :: a :: r, x.2.2.2.1, x.2.2.2.2) else False
  | _ => False
def o_pop : xOp := fun x k _ => match x.2.2.1 with
  | a :: r => bif Nat.beq a.category 1 then k (x.1 + 1, x.2.1, r, x.2.2.2.1, x.2.2.2.2) else False
  | _ => False
def o_dupx1 : xOp := fun x k _ => match x.2.2.1 with
  | a :: b :: r => bif Nat.beq a.category 1 && Nat.beq b.category 1 then k (x.1 + 1, x.2.1, a :: b :: a :: r, x.2.2.2.1, x.2.2.2.2) else False
  | _ => False
def o_dup2 : xOp := fun x k _ => match x.2.2.1 with
  | a :: b :: r => bif Nat.beq a.category 1 && Nat.beq b.category 1 then k (x.1 + 1, x.2.1, a :: b :: a :: b :: r, x.2.2.2.1, x.2.2.2.2) else False
  | _ => False
theorem bif_t {b : Bool} {P : Prop} (h : bif b then P else False) : b = true ∧ P := by
  cases b with
  | true => exact ⟨rfl, h⟩
  | false => exact h.elim
theorem cat1 {v : Value} {ρ : Nat → Nat} (h : Nat.beq v.category 1 = true) : (xv ρ v).category = 1 := by rw [xv_cat]; exact Nat.eq_of_beq_eq_true h
theorem s_dup (hd : decode cc pc = .ok (.dup, 1)) : xSd k0 Ex cl own Ts cc nL ret R (pc, o_dup) := by
  intro p l e s m args below meth c D cA ρ A X Q J x hpc hJ ho H locs ls hl hP hD hS
  obtain ⟨pc', L, st, h, n⟩ := x
  obtain rfl : pc' = pc := hpc
  dsimp only [o_dup] at ho
  split at ho
  · rename_i a r
    exact lv_dup X.1 X.2.1 hd (cat1 (bif_t ho).1) (hJ _ (bif_t ho).2 H locs ls hl hP hD hS)
  · exact ho.elim
theorem s_pop (hd : decode cc pc = .ok (.pop, 1)) : xSd k0 Ex cl own Ts cc nL ret R (pc, o_pop) := by
  intro p l e s m args below meth c D cA ρ A X Q J x hpc hJ ho H locs ls hl hP hD hS
  obtain ⟨pc', L, st, h, n⟩ := x
  obtain rfl : pc' = pc := hpc
  dsimp only [o_pop] at ho
  split at ho
  · rename_i a r
    exact lv_pop X.1 X.2.1 hd (cat1 (bif_t ho).1) (hJ _ (bif_t ho).2 H locs ls hl hP hD hS)
  · exact ho.elim
theorem s_dupx1 (hd : decode cc pc = .ok (.dup_x1, 1)) : xSd k0 Ex cl own Ts cc nL ret R (pc, o_dupx1) := by
  intro p l e s m args below meth c D cA ρ A X Q J x hpc hJ ho H locs ls hl hP hD hS
  obtain ⟨pc', L, st, h, n⟩ := x
  obtain rfl : pc' = pc := hpc
  dsimp only [o_dupx1] at ho
  split at ho
  · rename_i a b r
    obtain ⟨h1, h2⟩ := bif_t ho
    rw [Bool.and_eq_true] at h1
    exact lv_dup_x1 X.1 X.2.1 hd (cat1 h1.1) (cat1 h1.2) (hJ _ h2 H locs ls hl hP hD hS)
  · exact ho.elim
theorem s_dup2 (hd : decode cc pc = .ok (.dup2, 1)) : xSd k0 Ex cl own Ts cc nL ret R (pc, o_dup2) := by
  intro p l e s m args below meth c D cA ρ A X Q J x hpc hJ ho H locs ls hl hP hD hS
  obtain ⟨pc', L, st, h, n⟩ := x
  obtain rfl : pc' = pc := hpc
  dsimp only [o_dup2] at ho
  split at ho
  · rename_i a b r
    obtain ⟨h1, h2⟩ := bif_t ho
    rw [Bool.and_eq_true] at h1
    exact lv_dup2_11 X.1 X.2.1 hd (cat1 h1.1) (cat1 h1.2) (hJ _ h2 H locs ls hl hP hD hS)
  · exact ho.elim
def o_iaload : xOp := fun x k _ => match x.2.2.1 with
  | .int i :: .ref a :: r => match x.2.2.2.1[a]? with
    | some (.inl (0, (N, .inl f))) => vp_in i N ∧ k (x.1 + 1, x.2.1, .int (f i.toNatClampNeg) :: r, x.2.2.2.1, x.2.2.2.2)
    | _ => False
  | _ => False
theorem s_iaload (hd : decode cc pc = .ok (.iaload, 1)) : xSd k0 Ex cl own Ts cc nL ret R (pc, o_iaload) := by
  intro p l e s m args below meth c D cA ρ A X Q J x hpc hJ ho H locs ls hl hP hD hS
  obtain ⟨pc', L, st, h, n⟩ := x
  obtain rfl : pc' = pc := hpc
  dsimp only [o_iaload] at ho
  split at ho
  · rename_i i a r
    split at ho
    · rename_i N f hc
      exact va_iald X.1 X.2.1 X.2.2.2.2.2.2.2.1 hP a 0 (xw_at hc) rfl ho.1 hd (hJ _ ho.2 H locs ls hl hP hD hS)
    · exact ho.elim
  · exact ho.elim
def o_baload : xOp := fun x k _ => match x.2.2.1 with
  | .int i :: .ref a :: r => match x.2.2.2.1[a]? with
    | some (.inl (2, (N, .inl f))) => vp_in i N ∧ k (x.1 + 1, x.2.1, .int (f i.toNatClampNeg) :: r, x.2.2.2.1, x.2.2.2.2)
    | _ => False
  | _ => False
theorem s_baload (hd : decode cc pc = .ok (.baload, 1)) : xSd k0 Ex cl own Ts cc nL ret R (pc, o_baload) := by
  intro p l e s m args below meth c D cA ρ A X Q J x hpc hJ ho H locs ls hl hP hD hS
  obtain ⟨pc', L, st, h, n⟩ := x
  obtain rfl : pc' = pc := hpc
  dsimp only [o_baload] at ho
  split at ho
  · rename_i i a r
    split at ho
    · rename_i N f hc
      exact va_zald X.1 X.2.1 X.2.2.2.2.2.2.2.1 hP a 2 (xw_at hc) rfl ho.1 hd (hJ _ ho.2 H locs ls hl hP hD hS)
    · exact ho.elim
  · exact ho.elim
def o_laload : xOp := fun x k _ => match x.2.2.1 with
  | .int i :: .ref a :: r => match x.2.2.2.1[a]? with
    | some (.inl (1, (N, .inr (.inl f)))) => vp_in i N ∧ k (x.1 + 1, x.2.1, .long (f i.toNatClampNeg) :: r, x.2.2.2.1, x.2.2.2.2)
    | _ => False
  | _ => False
theorem s_laload (hd : decode cc pc = .ok (.laload, 1)) : xSd k0 Ex cl own Ts cc nL ret R (pc, o_laload) := by
  intro p l e s m args below meth c D cA ρ A X Q J x hpc hJ ho H locs ls hl hP hD hS
  obtain ⟨pc', L, st, h, n⟩ := x
  obtain rfl : pc' = pc := hpc
  dsimp only [o_laload] at ho
  split at ho
  · rename_i i a r
    split at ho
    · rename_i N f hc
      exact va_lald X.1 X.2.1 X.2.2.2.2.2.2.2.1 hP a 1 (xw_at hc) rfl ho.1 hd (hJ _ ho.2 H locs ls hl hP hD hS)
    · exact ho.elim
  · exact ho.elim
def o_iastore : xOp := fun x k _ => match x.2.2.1 with
  | .int v :: .int i :: .ref a :: r => match x.2.2.2.1[a]? with
    | some (.inl (0, (N, .inl f))) => vp_in i N ∧ k (x.1 + 1, x.2.1, r, x.2.2.2.1.set a (.inl (0, (N, .inl (upd f i.toNatClampNeg v)))), x.2.2.2.2)
    | _ => False
  | _ => False
theorem s_iastore (hd : decode cc pc = .ok (.iastore, 1)) : xSd k0 Ex cl own Ts cc nL ret R (pc, o_iastore) := by
  intro p l e s m args below meth c D cA ρ A X Q J x hpc hJ ho H locs ls hl hP hD hS
  obtain ⟨pc', L, st, h, n⟩ := x
  obtain rfl : pc' = pc := hpc
  dsimp only [o_iastore] at ho
  split at ho
  · rename_i v i a r
    split at ho
    · rename_i N f hc
      refine va_iast X.1 X.2.1 X.2.2.2.2.2.2.2.1 hP hD hS a 0 (xw_at hc) rfl ho.1 hd (fun H1 locs1 hP1 hD1 hS1 => ?_)
      have e := xw_set0 (ρ := ρ) (cA := cA) h a (.inl (0, (N, .inl (upd f i.toNatClampNeg v))))
      exact hJ _ ho.2 H1 locs1 ls hl (by rw [← e]; exact hP1) (by rw [← e]; exact hD1) hS1
    · exact ho.elim
  · exact ho.elim
def o_bastore : xOp := fun x k _ => match x.2.2.1 with
  | .int v :: .int i :: .ref a :: r => match x.2.2.2.1[a]? with
    | some (.inl (2, (N, .inl f))) => vp_in i N ∧ k (x.1 + 1, x.2.1, r, x.2.2.2.1.set a (.inl (2, (N, .inl (upd f i.toNatClampNeg (vp_nar .boolean v))))), x.2.2.2.2)
    | _ => False
  | _ => False
theorem s_bastore (hd : decode cc pc = .ok (.bastore, 1)) : xSd k0 Ex cl own Ts cc nL ret R (pc, o_bastore) := by
  intro p l e s m args below meth c D cA ρ A X Q J x hpc hJ ho H locs ls hl hP hD hS
  obtain ⟨pc', L, st, h, n⟩ := x
  obtain rfl : pc' = pc := hpc
  dsimp only [o_bastore] at ho
  split at ho
  · rename_i v i a r
    split at ho
    · rename_i N f hc
      refine va_zast X.1 X.2.1 X.2.2.2.2.2.2.2.1 hP hD hS a 2 (xw_at hc) rfl ho.1 hd (fun H1 locs1 hP1 hD1 hS1 => ?_)
      have e := xw_set0 (ρ := ρ) (cA := cA) h a (.inl (2, (N, .inl (upd f i.toNatClampNeg (vp_nar .boolean v)))))
      exact hJ _ ho.2 H1 locs1 ls hl (by rw [← e]; exact hP1) (by rw [← e]; exact hD1) hS1
    · exact ho.elim
  · exact ho.elim
def o_lastore : xOp := fun x k _ => match x.2.2.1 with
  | .long v :: .int i :: .ref a :: r => match x.2.2.2.1[a]? with
    | some (.inl (1, (N, .inr (.inl f)))) => vp_in i N ∧ k (x.1 + 1, x.2.1, r, x.2.2.2.1.set a (.inl (1, (N, .inr (.inl (vp_updL f i.toNatClampNeg v))))), x.2.2.2.2)
    | _ => False
  | _ => False
theorem s_lastore (hd : decode cc pc = .ok (.lastore, 1)) : xSd k0 Ex cl own Ts cc nL ret R (pc, o_lastore) := by
  intro p l e s m args below meth c D cA ρ A X Q J x hpc hJ ho H locs ls hl hP hD hS
  obtain ⟨pc', L, st, h, n⟩ := x
  obtain rfl : pc' = pc := hpc
  dsimp only [o_lastore] at ho
  split at ho
  · rename_i v i a r
    split at ho
    · rename_i N f hc
      refine va_last X.1 X.2.1 X.2.2.2.2.2.2.2.1 hP hD hS a 1 (xw_at hc) rfl ho.1 hd (fun H1 locs1 hP1 hD1 hS1 => ?_)
      have e := xw_set0 (ρ := ρ) (cA := cA) h a (.inl (1, (N, .inr (.inl (vp_updL f i.toNatClampNeg v)))))
      exact hJ _ ho.2 H1 locs1 ls hl (by rw [← e]; exact hP1) (by rw [← e]; exact hD1) hS1
    · exact ho.elim
  · exact ho.elim
end XS
end
section
section XF
variable {k0 : Nat × Nat} {Ex : Code → State → (Nat → Nat) → (Nat → Prop) → Prop} {cl : List vw_C} {own : String} {Ts : List Cond} {cc : ByteArray} {nL : Nat} {ret : Option FieldType} {R : Room} {pc : Nat}
def o_getf (ci f : Nat) : xOp := fun x k _ => match x.2.2.1 with
  | .ref a :: r => match x.2.2.2.1[a]? with
    | some (.inr (cj, fs)) => match fs[f]? with
      | some v => bif Nat.beq cj ci then k (x.1 + 3, x.2.1, v :: r, x.2.2.2.1, x.2.2.2.2) else False
      | none => False
    | _ => False
  | _ => False
def o_puti (ci f : Nat) : xOp := fun x k _ => match x.2.2.1 with
  | .int v :: .ref a :: r => match x.2.2.2.1[a]? with
    | some (.inr (cj, fs)) => bif Nat.beq cj ci && Nat.blt f fs.length then k (x.1 + 3, x.2.1, r, x.2.2.2.1.set a (.inr (cj, fs.set f (.int v))), x.2.2.2.2) else False
    | _ => False
  | _ => False

theorem s_getf {ci f i : Nat} {C : String} {T : u_T} {N : Nat} (hd : decode cc pc = .ok (.getfield i, 3)) (hc : cl[ci]? = some (C, T, N)) (hin : ∀ w ∈ u_ws C T N, w ∈ Ts) (hf : f < N) (hw : Cond.fieldLink own i (T f).1 (T f).2.1 (T f).2.2.1 ∈ Ts) : xSd k0 Ex cl own Ts cc nL ret R (pc, o_getf ci f) := by
  intro p l e s m args below meth c D cA ρ A X Q J x hpc hJ ho H locs ls hl hP hD hS
  obtain ⟨pc', L, st, h, n⟩ := x
  obtain rfl : pc' = pc := hpc
  dsimp only [o_getf] at ho
  split at ho
  · rename_i a r
    split at ho
    · rename_i cj fs he
      split at ho
      · rename_i v hfv
        obtain ⟨h1, h2⟩ := bif_t ho
        obtain rfl : cj = ci := Nat.eq_of_beq_eq_true h1
        exact va_get X.1 X.2.1 X.2.2.2.2.2.2.1 hin X.2.2.2.2.2.1 X.2.2.2.2.2.2.2.1 hP a (xw_at he) hc f hf (X.2.2.2.2.2.2.1 _ hw) (fun _ q => q) (v := xv ρ v) (by rw [List.getElem?_map, hfv]; rfl) hd (hJ _ h2 H locs ls hl hP hD hS)
      · exact ho.elim
    · exact ho.elim
  · exact ho.elim
theorem s_getfN {ci f i : Nat} {C : String} {T : u_T} {N : Nat} {host : String} (hd : decode cc pc = .ok (.getfield i, 3)) (hc : cl[ci]? = some (C, T, N)) (hin : ∀ w ∈ u_ws C T N, w ∈ Ts) (hf : f < N) (hw : Cond.fieldLinkNest own i (T f).1 (T f).2.1 (T f).2.2.1 host ∈ Ts) : xSd k0 Ex cl own Ts cc nL ret R (pc, o_getf ci f) := by
  intro p l e s m args below meth c D cA ρ A X Q J x hpc hJ ho H locs ls hl hP hD hS
  obtain ⟨pc', L, st, h, n⟩ := x
  obtain rfl : pc' = pc := hpc
  dsimp only [o_getf] at ho
  split at ho
  · rename_i a r
    split at ho
    · rename_i cj fs he
      split at ho
      · rename_i v hfv
        obtain ⟨h1, h2⟩ := bif_t ho
        obtain rfl : cj = ci := Nat.eq_of_beq_eq_true h1
        exact va_getN X.1 X.2.1 X.2.2.2.2.2.2.1 hin X.2.2.2.2.2.1 X.2.2.2.2.2.2.2.1 hP a (xw_at he) hc f hf (X.2.2.2.2.2.2.1 _ hw) (fun _ q => q) (v := xv ρ v) (by rw [List.getElem?_map, hfv]; rfl) hd (hJ _ h2 H locs ls hl hP hD hS)
      · exact ho.elim
    · exact ho.elim
  · exact ho.elim
theorem s_puti {ci f i : Nat} {C : String} {T : u_T} {N : Nat} (hd : decode cc pc = .ok (.putfield i, 3)) (hc : cl[ci]? = some (C, T, N)) (hin : ∀ w ∈ u_ws C T N, w ∈ Ts) (hf : f < N) (hw : Cond.fieldLink own i (T f).1 (T f).2.1 (T f).2.2.1 ∈ Ts) (ty0 : Nat → FieldType) (hty : ∀ k, k < N → parseFieldDescriptor (T k).2.2.1 = some (ty0 k)) (hnm : ∀ a, a < N → ∀ b, b < N → a ≠ b → (T a).2.1 ≠ (T b).2.1) (hfin : (T f).2.2.2 = false) (hde : parseFieldDescriptor (T f).2.2.1 = some .int) : xSd k0 Ex cl own Ts cc nL ret R (pc, o_puti ci f) := by
  intro p l e s m args below meth c D cA ρ A X Q J x hpc hJ ho H locs ls hl hP hD hS
  obtain ⟨pc', L, st, h, n⟩ := x
  obtain rfl : pc' = pc := hpc
  dsimp only [o_puti] at ho
  split at ho
  · rename_i v a r
    split at ho
    · rename_i cj fs he
      obtain ⟨h1, h2⟩ := bif_t ho
      rw [Bool.and_eq_true] at h1
      obtain rfl : cj = ci := Nat.eq_of_beq_eq_true h1.1
      have hlt : f < fs.length := Nat.le_of_ble_eq_true h1.2
      refine va_put X.1 X.2.1 X.2.2.2.2.2.2.1 hin ty0 hty hnm X.2.2.2.2.2.1 X.2.2.2.2.2.2.2.1 hP hD hS a (xw_at he) hc f hf (X.2.2.2.2.2.2.1 _ hw) (fun _ q => q) hfin (v := .int v) hde rfl rfl (by rw [List.length_map]; exact hlt) hd (fun H1 locs1 hP1 hD1 hS1 => ?_)
      have e := xw_set0 (ρ := ρ) (cA := cA) h a (.inr (cj, fs.set f (.int v)))
      have e2 : xe ρ cA (.inr (cj, fs.set f (.int v))) = .inr (cj, (fs.map (xv ρ)).set f (.int v)) := by
        show Sum.inr (cj, (fs.set f (.int v)).map (xv ρ)) = _
        rw [List.map_set]; rfl
      rw [e2] at e
      exact hJ _ h2 H1 locs1 ls hl (by rw [← e]; exact hP1) (by rw [← e]; exact hD1) hS1
    · exact ho.elim
  · exact ho.elim
theorem s_putiN {ci f i : Nat} {C : String} {T : u_T} {N : Nat} {host : String} (hd : decode cc pc = .ok (.putfield i, 3)) (hc : cl[ci]? = some (C, T, N)) (hin : ∀ w ∈ u_ws C T N, w ∈ Ts) (hf : f < N) (hw : Cond.fieldLinkNest own i (T f).1 (T f).2.1 (T f).2.2.1 host ∈ Ts) (ty0 : Nat → FieldType) (hty : ∀ k, k < N → parseFieldDescriptor (T k).2.2.1 = some (ty0 k)) (hnm : ∀ a, a < N → ∀ b, b < N → a ≠ b → (T a).2.1 ≠ (T b).2.1) (hfin : (T f).2.2.2 = false) (hde : parseFieldDescriptor (T f).2.2.1 = some .int) : xSd k0 Ex cl own Ts cc nL ret R (pc, o_puti ci f) := by
  intro p l e s m args below meth c D cA ρ A X Q J x hpc hJ ho H locs ls hl hP hD hS
  obtain ⟨pc', L, st, h, n⟩ := x
  obtain rfl : pc' = pc := hpc
  dsimp only [o_puti] at ho
  split at ho
  · rename_i v a r
    split at ho
    · rename_i cj fs he
      obtain ⟨h1, h2⟩ := bif_t ho
      rw [Bool.and_eq_true] at h1
      obtain rfl : cj = ci := Nat.eq_of_beq_eq_true h1.1
      have hlt : f < fs.length := Nat.le_of_ble_eq_true h1.2
      refine va_putN X.1 X.2.1 X.2.2.2.2.2.2.1 hin ty0 hty hnm X.2.2.2.2.2.1 X.2.2.2.2.2.2.2.1 hP hD hS a (xw_at he) hc f hf (X.2.2.2.2.2.2.1 _ hw) (fun _ q => q) hfin (v := .int v) hde rfl rfl (by rw [List.length_map]; exact hlt) hd (fun H1 locs1 hP1 hD1 hS1 => ?_)
      have e := xw_set0 (ρ := ρ) (cA := cA) h a (.inr (cj, fs.set f (.int v)))
      have e2 : xe ρ cA (.inr (cj, fs.set f (.int v))) = .inr (cj, (fs.map (xv ρ)).set f (.int v)) := by
        show Sum.inr (cj, (fs.set f (.int v)).map (xv ρ)) = _
        rw [List.map_set]; rfl
      rw [e2] at e
      exact hJ _ h2 H1 locs1 ls hl (by rw [← e]; exact hP1) (by rw [← e]; exact hD1) hS1
    · exact ho.elim
  · exact ho.elim
end XF
section XR
variable {p : Program} {l : Launch} {e : Env} {R : Room} {s : State} {m : MethodId} {args : Array Value} {below : List Frame} {meth : Method} {c : Code} {H : Heap} {locs : List Loc} {cells slots : Nat}
theorem W.mono {Q Q' : State → Prop} {g : JFrame} (k : W p l e R s m args below meth c H locs cells slots Q g) (h : ∀ t, Q t → Q' t) : W p l e R s m args below meth c H locs cells slots Q' g := fun T hT X => by
  obtain ⟨t, a, b⟩ := k T hT X
  exact ⟨t, a, h t b⟩
theorem xret {k0 : Nat × Nat} {cl : List vw_C} {D : va_G} {cA : Nat → ClassId} {ρ : Nat → Nat} {A : Nat → Prop} {Q : xQ} {v : Option Value} {h : xH} {n : Nat} (hQ : Q (.inl v) h n) (hP : va_P D cl (xw ρ cA 0 h) H) (hD : va_D A (xw ρ cA 0 h)) (hS : va_S A s.heap H locs) {t : State}
    (hq : MQ below (fun _ _ o t => o = .returned (v.map (xv ρ)) ∧ t.heap = H ∧ s.WarmedH t.vm) args s (k0.1 + n) (k0.2 + 6 * n) A t) : xMQ k0 cl D cA ρ A Q s below t := by
  obtain ⟨o, h1, h2, ⟨h3, h4, h5⟩, L, ⟨-, -, h6⟩, h7⟩ := hq
  refine ⟨o, h1, h2, .inl v, h, n, hQ, ?_, by rw [h4]; exact hP, hD, hS.F h4, h5, L, h6, h7⟩
  cases v with
  | none => exact h3
  | some w => exact h3
end XR
section XV
variable {k0 : Nat × Nat} {Ex : Code → State → (Nat → Nat) → (Nat → Prop) → Prop} {cl : List vw_C} {own : String} {Ts : List Cond} {cc : ByteArray} {nL : Nat} {ret : Option FieldType} {R : Room} {pc : Nat}
def o_iret : xOp := fun x _ Q => match x.2.2.1 with
  | [.int v] => Q (.inl (some (.int v))) x.2.2.2.1 x.2.2.2.2
  | _ => False
def o_zret : xOp := fun x _ Q => match x.2.2.1 with
  | [.int v] => (v = 0 ∨ v = 1) ∧ Q (.inl (some (.int v))) x.2.2.2.1 x.2.2.2.2
  | _ => False
def o_lret : xOp := fun x _ Q => match x.2.2.1 with
  | [.long v] => Q (.inl (some (.long v))) x.2.2.2.1 x.2.2.2.2
  | _ => False
def o_vret : xOp := fun x _ Q => match x.2.2.1 with
  | [] => Q (.inl none) x.2.2.2.1 x.2.2.2.2
  | _ => False
theorem s_iret (hd : decode cc pc = .ok (.ireturn, 1)) : xSd k0 Ex cl own Ts cc nL (some .int) R (pc, o_iret) := by
  intro p l e s m args below meth c D cA ρ A X Q J x hpc hJ ho H locs ls hl hP hD hS
  obtain ⟨pc', L, st, h, n⟩ := x
  obtain rfl : pc' = pc := hpc
  dsimp only [o_iret] at ho
  split at ho
  · rename_i v
    have hlocks := X.2.2.2.2.1
    exact W.mono (W.iret (v := v) (free := A) X.1 X.2.1 X.2.2.2.1 (fun t ht hW => ⟨rfl, ht, hW⟩) hS.2.2 hd) (fun t ht => xret (v := some (.int v)) ho hP hD hS ht)
  · exact ho.elim
theorem s_zret (hd : decode cc pc = .ok (.ireturn, 1)) : xSd k0 Ex cl own Ts cc nL (some .boolean) R (pc, o_zret) := by
  intro p l e s m args below meth c D cA ρ A X Q J x hpc hJ ho H locs ls hl hP hD hS
  obtain ⟨pc', L, st, h, n⟩ := x
  obtain rfl : pc' = pc := hpc
  dsimp only [o_zret] at ho
  split at ho
  · rename_i v
    have hlocks := X.2.2.2.2.1
    have hn : narrow .boolean (.int v) = .int v := by
      rcases ho.1 with q | q <;> subst q <;> decide
    exact W.mono (W.zret (v := v) (free := A) X.1 X.2.1 X.2.2.2.1 hn (fun t ht hW => ⟨rfl, ht, hW⟩) hS.2.2 hd) (fun t ht => xret (v := some (.int v)) ho.2 hP hD hS ht)
  · exact ho.elim
theorem s_lret (hd : decode cc pc = .ok (.lreturn, 1)) : xSd k0 Ex cl own Ts cc nL (some .long) R (pc, o_lret) := by
  intro p l e s m args below meth c D cA ρ A X Q J x hpc hJ ho H locs ls hl hP hD hS
  obtain ⟨pc', L, st, h, n⟩ := x
  obtain rfl : pc' = pc := hpc
  dsimp only [o_lret] at ho
  split at ho
  · rename_i v
    have hlocks := X.2.2.2.2.1
    exact W.mono (W.lret (v := v) (free := A) X.1 X.2.1 X.2.2.2.1 (fun t ht hW => ⟨rfl, ht, hW⟩) hS.2.2 hd) (fun t ht => xret (v := some (.long v)) ho hP hD hS ht)
  · exact ho.elim
theorem s_vret (hd : decode cc pc = .ok (.return_, 1)) : xSd k0 Ex cl own Ts cc nL none R (pc, o_vret) := by
  intro p l e s m args below meth c D cA ρ A X Q J x hpc hJ ho H locs ls hl hP hD hS
  obtain ⟨pc', L, st, h, n⟩ := x
  obtain rfl : pc' = pc := hpc
  dsimp only [o_vret] at ho
  split at ho
  · have hlocks := X.2.2.2.2.1
    exact W.mono (W.vret (free := A) X.1 X.2.1 X.2.2.2.1 (fun t ht hW => ⟨rfl, ht, hW⟩) hS.2.2 hd) (fun t ht => xret (v := none) ho hP hD hS ht)
  · exact ho.elim
end XV
/-- how a method's frame begins -/
def xen : List Value → xL
  | [] => []
  | v :: t => bif Nat.beq v.category 2 then some v :: none :: xen t else some v :: xen t
def xA (ρ : Nat → Nat) (k sz : Nat) : Nat → Prop := fun q => (∃ i, i < k ∧ q = ρ i) ∨ sz ≤ q
def xPre (cl : List vw_C) (D : va_G) (cA : Nat → ClassId) (ρ : Nat → Nat) (vs : List Value) (h : xH) (sz : Nat) : Array Value → State → Prop := fun a U => a = (vs.map (xv ρ)).toArray ∧ U.heap.size = sz ∧ va_P D cl (xw ρ cA 0 h) U.heap ∧ va_K D cl (xty cA) U ∧ va_D (fun _ => True) (xw ρ cA 0 h) ∧ xHs U
/-- a method's contract: what its meaning F promises, the machine does -/
def xMet (cl : List vw_C) (y : MethodName) (ws : List Cond) (rm : Room) (F : xP) : Prop := ∀ (l : Launch) (D : va_G) (cA : Nat → ClassId) (ρ : Nat → Nat) (vs : List Value) (h : xH) (Q : xQ) (sz : Nat), xLo l → F vs h Q →
  MetFree l y (headSpec ws rm) (xPre cl D cA ρ vs h sz) (fun _ _ _ _ _ => True) (fun _ st o t => xEnd (0, 0) cl D cA ρ (xA ρ h.length sz) Q st o t)
def xRun (tb : xT) (nL : Nat) : xP := fun vs h Q => (xen vs).length ≤ nL ∧ xG tb Q (0, xen vs ++ List.replicate (nL - (xen vs).length) none, [], h, 0)
theorem xMet.weak {cl : List vw_C} {y : MethodName} {ws : List Cond} {rm : Room} {F F' : xP} (h : xMet cl y ws rm F) (hF : ∀ vs h Q, F' vs h Q → F vs h Q) : xMet cl y ws rm F' := fun l D cA ρ vs hh Q sz hlo q => h l D cA ρ vs hh Q sz hlo (hF vs hh Q q)
theorem xla_none (ρ : Nat → Nat) : ∀ (k i : Nat), xla ρ i (List.replicate k none) = []
  | 0, i => rfl
  | k + 1, i => by rw [List.replicate_succ]; exact xla_none ρ k (i + 1)
theorem xen_la (ρ : Nat → Nat) (k : Nat) : ∀ (vs : List Value) (i : Nat), xla ρ i (xen vs ++ List.replicate k none) = lv_args i (vs.map (xv ρ))
  | [], i => xla_none ρ k i
  | v :: t, i => by
    unfold xen
    simp only [List.map_cons, lv_args, xv_cat]
    cases hb : Nat.beq v.category 2 with
    | true =>
      have : v.category = 2 := Nat.eq_of_beq_eq_true hb
      rw [if_pos this, ← xen_la ρ k t (i + 2)]
      rfl
    | false =>
      rw [if_neg (beq_f hb), ← xen_la ρ k t (i + 1)]
      rfl
theorem xen_len (ρ : Nat → Nat) : ∀ (vs : List Value), (lg_sl (vs.map (xv ρ))).length = (xen vs).length
  | [] => rfl
  | v :: t => by
    have ih := xen_len ρ t
    unfold lg_sl at ih ⊢
    unfold xen
    simp only [List.map_cons, List.flatMap_cons, List.length_append, xv_cat, ih]
    cases hb : Nat.beq v.category 2 with
    | true =>
      have : v.category = 2 := Nat.eq_of_beq_eq_true hb
      rw [if_pos this]
      simp
      omega
    | false =>
      rw [if_neg (beq_f hb)]
      simp
      omega
theorem xw_len (ρ : Nat → Nat) (cA : Nat → ClassId) : ∀ (h : xH) (i : Nat), (xw ρ cA i h).length = h.length
  | [], i => rfl
  | c :: t, i => by simp [xw, xw_len ρ cA t (i + 1)]
theorem xD_A {ρ : Nat → Nat} {cA : Nat → ClassId} {h : xH} {A : Nat → Prop} {sz : Nat} (hD : va_D A (xw ρ cA 0 h)) : va_D (xA ρ h.length sz) (xw ρ cA 0 h) :=
  hD.weaken fun k q hk _ => by
    rw [xw_get] at hk
    cases hh : h[k]? with
    | none => rw [hh] at hk; cases hk
    | some c =>
      rw [hh] at hk
      simp only [Option.map_some, Option.some.injEq, Nat.zero_add] at hk
      exact Or.inl ⟨k, (List.getElem?_eq_some_iff.mp hh).1, by rw [← hk]⟩
theorem xA_sub {ρ : Nat → Nat} {cA : Nat → ClassId} {h : xH} {A : Nat → Prop} {sz sz0 : Nat} (hD : va_D A (xw ρ cA 0 h)) (hA : ∀ q, sz0 ≤ q → A q) (hs : sz0 ≤ sz) : ∀ q, xA ρ h.length sz q → A q := fun q hq => by
  rcases hq with ⟨i, hi, rfl⟩ | hq
  · have hg : h[i]? = some h[i] := List.getElem?_eq_getElem hi
    exact hD.2 i _ (xw_at hg)
  · exact hA q (Nat.le_trans hs hq)
theorem x_ns {cl : List vw_C} {D : va_G} {cA : Nat → ClassId} {ρ : Nat → Nat} {h : xH} {H : Heap} (hP : va_P D cl (xw ρ cA 0 h) H) : ∀ q, xA ρ h.length H.size q → ∀ cell : Cell, H[q]? = some cell → cell.vm.isStatics = false := by
  intro q hq cell hc
  rcases hq with ⟨i, hi, rfl⟩ | hq
  · have hg : h[i]? = some h[i] := List.getElem?_eq_getElem hi
    have h1 := hP i _ (xw_at hg)
    generalize h[i] = w at h1
    rcases w with a | o
    · have h2 : H[ρ i]? = some (vp_cell (cA a.1) a.2) := h1
      rw [h2] at hc
      have h3 : vp_cell (cA a.1) a.2 = cell := Option.some.inj hc
      rw [← h3]
      obtain ⟨t, n, f | f | f | f | f⟩ := a <;> rfl
    · obtain ⟨r, -, c2, w1, w2, w3, -⟩ := h1
      rw [w1] at hc
      have h3 : c2 = cell := Option.some.inj hc
      rw [← h3, w3]
      rfl
  · have : H[q]? = none := by simp [hq]
    rw [this] at hc
    cases hc
theorem xMet.of {cl : List vw_C} {y : MethodName} {ws ws' : List Cond} {rm : Room} {cc : ByteArray} {nL : Nat} {ret : Option FieldType} {tb : xT} (hy : plainName y.cls = true) (hw : ws = Cond.code y cc nL ret :: ws') (hv : ∀ q ∈ tb, xSd (0, 0) x0 cl y.cls ws cc nL ret rm q) : xMet cl y ws rm (xRun tb nL) := by
  intro l D cA ρ vs h Q sz hlo hF
  refine MetFree.of_bodyS (code := cc) (maxLocals := nL) (ret := ret) hy ?_ ?_
  · intro args s m hh hn
    obtain ⟨meth, c, h1, h2, h3, h4, h5, h6, -, -⟩ := Cond.code_spec hn (atoms_spec (ws := ws) hh _ (by rw [hw]; exact List.mem_cons_self))
    exact ⟨meth, c, h1, h2, h3, h4, h5, h6⟩
  · intro p e s m args below meth c s₁ B hml hP _
    obtain ⟨rfl, hsz, hP, hK, hD0, hHs⟩ := hP
    subst hsz
    have hh0 : s₁.heap = s.heap := by rw [B.state]; rfl
    have hts := atoms_spec (ws := ws) B.pre
    have hcw : Cond.code y cc nL ret ∈ ws := by rw [hw]; exact List.mem_cons_self
    have hX : xCx x0 cl y.cls ws cc nL ret p l s m (vs.map (xv ρ)).toArray meth c D cA ρ (xA ρ h.length s.heap.size) :=
      ⟨B.exec, B.bytes, hml, B.returns, B.notSynchronized, findClass_of_methodNamed B.named, hts, hK, fun q hq => Or.inr hq, B.noHandlers (hts _ hcw), hlo, x_ns hP, hHs⟩
    have hl := lv_entry (vs.map (xv ρ)) (n := nL) (by rw [xen_len]; exact hF.1)
    have hk := xSd.all (l := l) (e := e) (below := below) (ρ := ρ) hv hX hF.2 s.heap [] _ (by rw [xen_la]; exact hl) hP (xD_A hD0) va_S.rf
    obtain ⟨t, a1, o, b1, b2, b3⟩ := hk s₁ hh0 (Stand.of_body B)
    exact ⟨t, o, by rw [lg_entry_eq]; exact a1, b1, b2, b3⟩

section XK
variable {p : Program} {l : Launch} {e : Env} {R : Room} {s : State} {m : MethodId} {args : Array Value} {below : List Frame} {meth : Method} {c : Code} {T : State} {locs : List Loc} {cells slots : Nat}
/-- a callee is entered and has ended, whatever way -/
theorem x_in (X : Stand p l e R s m args below meth c T locs cells slots) {g : JFrame} (hg : g.method = m) (hsize : g.locals.size = c.maxLocals) {ig : Instr} {len : Nat} (hdg : decode c.code g.pc = .ok (ig, len)) {y : MethodName} {mk : MethodId} (hn : T.methodNamed? y = some mk)
    {ws : List Cond} {rm : Room} {Pf : Array Value → State → Prop} {Qf : Array Value → State → Outcome → State → Prop} (hM : MetFree l y (headSpec ws rm) Pf (fun _ _ _ _ _ => True) Qf) {a : Array Value} {maxL : Nat}
    (hws : ∀ w ∈ ws, w.before a T = true) (hcY : ∃ methY cY, T.vm.method? mk = some methY ∧ methY.code = some cY ∧ cY.maxLocals = maxL) (hini : (Cond.initialized y.cls).before a T = true)
    (hfr : rm.frames + 1 ≤ R.frames) (hlo : 2 * g.monitorRoom + (g.stack.map fun v => v.category).sum + (maxL + 11) + rm.locals ≤ R.locals) (hce : cells + rm.cells ≤ R.cells) (hsl : slots + rm.slots ≤ R.slots) (hP : Pf a (T.calling g mk a)) :
    ∃ o s₂, Steps p.tables e below (doInvoke e (T.setTop g) [] mk a).1 s₂ ∧ s₂.status = .running ∧ Ended s₂ (.java g :: below) o ∧ Qf a (T.calling g mk a) o s₂ := by
  obtain ⟨methY, cY, hmY, hcY, hlY⟩ := hcY
  obtain ⟨kY, hkY, -⟩ := className_of_methodNamed hn
  have hinitY : kY.init = .initialized := Cond.initialized_spec (findClass_of_methodNamed hn) hkY hini
  have h : At T g.method c below := by rw [hg]; exact X.here
  have happ : (headSpec ws rm).appliesLoose y e.platform (T.calling g mk a) = true :=
    Spec.appliesLoose_calling (g := g) h hdg hn hkY hinitY (X.room_calling (g := g) (R' := rm) hsize hmY hcY hfr (by rw [hlY]; exact hlo) hce hsl) (atoms_intro hws)
  obtain ⟨mid, hmid⟩ := h.above
  have hfr2 : (T.setTop g).frames = (.java g :: mid) ++ below := by rw [State.frames_setTop' g h.top, hmid]; rfl
  obtain ⟨o, s₂, hsteps, hrun, hend, hq⟩ := Steps.callFree hM p X.admits X.cas X.clock (acts := []) hfr2 happ hP trivial
  rw [State.frames_setTop' g h.top, X.tail] at hend
  exact ⟨o, s₂, hsteps, hrun, hend, hq⟩
end XK
end
section
def xnw : Cond → Bool
  | .fieldLinkNest .. => true
  | .methodLinkNest .. => true
  | .declares _ => true
  | .castable .. => true
  | .stringRef .. => true
  | _ => false
def xgw (w : Cond) : Prop := ((w.onTables && w.keeps) = true ∨ ∃ ty, w = .arrayClass ty) ∨ xnw w = true
theorem xgw_at {w : Cond} {args a' : Array Value} {s U : State} (hW : s.WarmedH U.vm) (hg : xgw w) (h : w.before args s = true) : w.before a' U = true := by
  rcases hg with hg | hg
  · exact word_at hW hg h
  · cases w with
    | fieldLinkNest a i b n d hh => exact va_Nw.use rfl (va_Nw.warmF hW (va_Nw.of rfl h))
    | methodLinkNest a i x hh => exact va_Nw.use rfl (va_Nw.warmM hW (va_Nw.of rfl h))
    | declares x => exact va_tabs rfl (rfl : (s.setVm U.vm).vm = U.vm) (Cond.before_shiftedFace (args := args) (State.Shifted.of_warmed hW) (Cond.declares x) rfl h)
    | castable x y => exact va_tabs rfl (rfl : (s.setVm U.vm).vm = U.vm) (Cond.before_shiftedFace (args := args) (State.Shifted.of_warmed hW) (Cond.castable x y) rfl h)
    | stringRef x y z =>
      have h1 := Cond.stringRef_warmed hW h
      simp only [Cond.before, Cond.holds, Cond.value, State.names, State.poolOf?, State.resolvedAt?, State.vm_setVm] at h1 ⊢
      exact h1
    | _ => cases hg
/-- the words of a callee are among the caller's, and stay true -/
def xGood (big ws : List Cond) : Prop := ∀ w ∈ ws, w ∈ big ∧ xgw w
/-- a call: F is the callee's meaning, np its arguments (with the receiver), rc and rk the rooms -/
def o_call (F : xP) (np rc rk : Nat) : xOp := fun x k Q => bif Nat.ble np x.2.2.1.length && (Nat.ble (xcs (x.2.2.1.drop np)) 8 && Nat.ble (x.2.2.2.2 + rk) rc) then
    F (x.2.2.1.take np).reverse x.2.2.2.1 (fun r h' n' => match r with
      | .inl none => k (x.1 + 3, x.2.1, x.2.2.1.drop np, h', x.2.2.2.2 + n')
      | .inl (some v) => k (x.1 + 3, x.2.1, v :: x.2.2.1.drop np, h', x.2.2.2.2 + n')
      | .inr X => Q (.inr X) h' (x.2.2.2.2 + n')) else False
section XK
variable {k0 : Nat × Nat} {Ex : Code → State → (Nat → Nat) → (Nat → Prop) → Prop} {cl : List vw_C} {p : Program} {l : Launch} {e : Env} {R : Room} {s : State} {m : MethodId} {args : Array Value} {below : List Frame} {meth : Method} {c : Code} {T : State} {locs : List Loc} {own : String} {Ts : List Cond} {cc : ByteArray} {nL : Nat} {ret : Option FieldType} {D : va_G} {cA : Nat → ClassId} {ρ : Nat → Nat} {A : Nat → Prop}
theorem x_callG (hX : xCx Ex cl own Ts cc nL ret p l s m args meth c D cA ρ A) {Q : xQ} {J : xF → Prop} (hJ : ∀ y, J y → xWW k0 cl R nL p l e s m args below meth c D cA ρ A Q y)
    {PT : Nat → xH → Nat → Prop} {pc n : Nat} {L : xL} {h : xH} {ls : Array Slot} {rest vs : List Value} (X : Stand p l e R s m args below meth c T locs (k0.1 + n) (k0.2 + 6 * n))
    (hl : lv_has ls nL (xla ρ 0 L)) (hP : va_P D cl (xw ρ cA 0 h) T.heap) (hD : va_D A (xw ρ cA 0 h)) (hS : va_S A s.heap T.heap locs) {ig : Instr} (hdg : decode cc pc = .ok (ig, 3))
    {y : MethodName} {mk : MethodId} (hn : T.methodNamed? y = some mk) {ws : List Cond} {rm : Room} {F : xP} (hM : xMet cl y ws rm F) {maxL : Nat} (hcY : ∃ methY cY, T.vm.method? mk = some methY ∧ methY.code = some cY ∧ cY.maxLocals = maxL) (hG : xGood Ts ws)
    (hini : Cond.initialized y.cls ∈ Ts) {rc rk : Nat} (hrc : k0.1 + rc ≤ R.cells) (hrs : k0.2 + 6 * rc ≤ R.slots) (hkc : rm.cells = rk) (hks : rm.slots = 6 * rk) (hfr : rm.frames + 1 ≤ R.frames) (hlo : 8 + (maxL + 11) + rm.locals ≤ R.locals)
    (hst : xcs rest ≤ 8) (hro : n + rk ≤ rc)
    (hF : F vs h (fun r h' n' => match r with
      | .inl none => J (pc + 3, L, rest, h', n + n')
      | .inl (some v) => J (pc + 3, L, v :: rest, h', n + n')
      | .inr Z => PT Z h' n'))
    (hPT : ∀ (Z : Nat) (h' : xH) (n' : Nat) (T' : State) (locs' : List Loc) (a : Nat) (cell : Cell), PT Z h' n' → Stand p l e R s m args below meth c T' locs' (k0.1 + (n + n')) (k0.2 + 6 * (n + n')) → va_P D cl (xw ρ cA 0 h') T'.heap → va_D A (xw ρ cA 0 h') → va_S A s.heap T'.heap locs' → T'.heap[a]? = some cell → (∀ k, cell.vm ≠ .statics k) → s.vm.findClass (xEx Z) = some cell.cls → (∃ k, s.vm.classes[cell.cls]? = some k) →
      ∃ t, Steps p.tables e below ((T'.setTop (F0 m pc ls (rest.map (xv ρ)))).pushFrame (.throwing a)) t ∧ xMQ k0 cl D cA ρ A Q s below t) :
    ∃ t, Steps p.tables e below (doInvoke e (T.setTop (F0 m pc ls (rest.map (xv ρ)))) [] mk (vs.map (xv ρ)).toArray).1 t ∧ xMQ k0 cl D cA ρ A Q s below t := by
  obtain ⟨hx, hb, hml, hr, hlk, hown, hts, hK, hA, hex0, hlo0, hns, hHs⟩ := hX
  have hwT : ∀ w ∈ ws, w.before (vs.map (xv ρ)).toArray T = true := fun w hw => xgw_at X.warmed (hG w hw).2 (hts w (hG w hw).1)
  have hdg' : decode c.code (F0 m pc ls (rest.map (xv ρ))).pc = .ok (ig, 3) := by rw [hb]; exact hdg
  obtain ⟨o, s₂, hsteps, hrun, hend, r, h', n', hq, hO, hP', hD', hF', hW', LL, hsame, hLL⟩ := x_in X (g := F0 m pc ls (rest.map (xv ρ))) rfl (by rw [hml]; exact hl.1) hdg' hn (hM l D cA ρ vs h _ T.heap.size hlo0 hF) (a := (vs.map (xv ρ)).toArray) hwT hcY
    (word_at X.warmed (Or.inl (by first | rfl | simp [Cond.onTables, Cond.keeps, Cond.steady])) (hts _ hini)) hfr (by
      show 2 * 0 + ((rest.map (xv ρ)).map fun v => v.category).sum + (maxL + 11) + rm.locals ≤ R.locals
      rw [xcs_map]; omega) (by rw [hkc]; omega) (by rw [hks]; omega)
    ⟨rfl, rfl, hP, va_K.moved X.warmed.alike hK, hD.weaken (fun _ _ _ _ => trivial), xHs.kept (U := T.calling (F0 m pc ls (rest.map (xv ρ))) mk (vs.map (xv ρ)).toArray) X.warmed.alike (x_stat hS hns) hHs⟩
  have hsub := xA_sub (h := h) (sz := T.heap.size) hD hA (show s.heap.size ≤ T.heap.size from hS.1)
  have hS' : va_S A s.heap s₂.heap (locs ++ LL) := by
    refine ⟨Nat.le_trans hS.1 hF'.1, fun q h1 h2 => ?_, fun q hq => ?_⟩
    · rw [hF'.2 q (Nat.lt_of_lt_of_le h1 hS.1) (fun z => h2 (hsub q z))]
      exact hS.2.1 q h1 h2
    · rcases List.mem_append.mp hq with hq | hq
      · exact hS.2.2 q hq
      · exact hsub _ (hLL q hq)
  have hDA : va_D A (xw ρ cA 0 h') := hD'.weaken fun k q _ z => hsub _ z
  have hcells : k0.2 + 6 * n + (0 + 6 * n') = k0.2 + 6 * (n + n') := by omega
  have hcells1 : k0.1 + n + (0 + n') = k0.1 + (n + n') := by omega
  rcases r with v | Z
  · obtain ⟨v', hv', hk⟩ : ∃ v' : Option Value, o = .returned v' ∧ xWW k0 cl R nL p l e s m args below meth c D cA ρ A Q (pc + 3, L, v.toList ++ rest, h', n + n') ∧ v' = v.map (xv ρ) := by
      cases v with
      | none => exact ⟨none, hO, hJ _ hq, rfl⟩
      | some w => exact ⟨some (xv ρ w), hO, hJ _ hq, rfl⟩
    subst hv'
    obtain ⟨T', X', -, -, ht⟩ := X.outOf (g := F0 m pc ls (rest.map (xv ρ))) rfl hdg' hend hW' hsame
    have hh : T'.heap = s₂.heap := by rw [ht]; rfl
    rw [hcells, hcells1] at X'
    obtain ⟨t, a1, b1⟩ := hk.1 T'.heap (locs ++ LL) ls hl (by rw [hh]; exact hP') hDA (by rw [hh]; exact hS') T' rfl X'
    refine ⟨t, hsteps.trans ?_, b1⟩
    rw [ht, hk.2]
    have e : (v.toList ++ rest).map (xv ρ) = (v.map (xv ρ)).toList ++ rest.map (xv ρ) := by cases v <;> simp
    rw [e] at a1
    exact a1
  · obtain ⟨a, cell, rfl, ha, hv, hc1, kc, hc2⟩ := hO
    obtain ⟨T', X', -, -, ht⟩ := X.outOfThrown (g := F0 m pc ls (rest.map (xv ρ))) rfl hend hW' hsame
    have hh : T'.heap = s₂.heap := by rw [ht]; rfl
    rw [hcells, hcells1] at X'
    obtain ⟨k', hk', -⟩ := (X.warmed.alike).symm.2.2 _ _ hc2
    obtain ⟨t, a1, b1⟩ := hPT Z h' n' T' (locs ++ LL) a cell hq X' (by rw [hh]; exact hP') hDA (by rw [hh]; exact hS') (by rw [hh]; exact ha) hv (by
      have := X.warmed.alike.findClass (xEx Z)
      rw [← this]
      exact hc1) ⟨k', hk'⟩
    exact ⟨t, hsteps.trans (by rw [ht]; exact a1), b1⟩
theorem x_call (hX : xCx Ex cl own Ts cc nL ret p l s m args meth c D cA ρ A) {Q : xQ} {J : xF → Prop} (hJ : ∀ y, J y → xWW k0 cl R nL p l e s m args below meth c D cA ρ A Q y)
    {pc n : Nat} {L : xL} {h : xH} {ls : Array Slot} {rest vs : List Value} (X : Stand p l e R s m args below meth c T locs (k0.1 + n) (k0.2 + 6 * n))
    (hl : lv_has ls nL (xla ρ 0 L)) (hP : va_P D cl (xw ρ cA 0 h) T.heap) (hD : va_D A (xw ρ cA 0 h)) (hS : va_S A s.heap T.heap locs) {ig : Instr} (hdg : decode cc pc = .ok (ig, 3))
    {y : MethodName} {mk : MethodId} (hn : T.methodNamed? y = some mk) {ws : List Cond} {rm : Room} {F : xP} (hM : xMet cl y ws rm F) {maxL : Nat} (hcY : ∃ methY cY, T.vm.method? mk = some methY ∧ methY.code = some cY ∧ cY.maxLocals = maxL) (hG : xGood Ts ws)
    (hini : Cond.initialized y.cls ∈ Ts) (hex : ∀ c s ρ A, Ex c s ρ A → c.exceptionTable.isEmpty = true) {rc rk : Nat} (hrc : k0.1 + rc ≤ R.cells) (hrs : k0.2 + 6 * rc ≤ R.slots) (hkc : rm.cells = rk) (hks : rm.slots = 6 * rk) (hfr : rm.frames + 1 ≤ R.frames) (hlo : 8 + (maxL + 11) + rm.locals ≤ R.locals)
    (hst : xcs rest ≤ 8) (hro : n + rk ≤ rc)
    (hF : F vs h (fun r h' n' => match r with
      | .inl none => J (pc + 3, L, rest, h', n + n')
      | .inl (some v) => J (pc + 3, L, v :: rest, h', n + n')
      | .inr X => Q (.inr X) h' (n + n'))) :
    ∃ t, Steps p.tables e below (doInvoke e (T.setTop (F0 m pc ls (rest.map (xv ρ)))) [] mk (vs.map (xv ρ)).toArray).1 t ∧ xMQ k0 cl D cA ρ A Q s below t := by
  have hlk := hX.2.2.2.2.1
  have hex := hex _ _ _ _ hX.2.2.2.2.2.2.2.2.2.1
  refine x_callG (PT := fun Z h' n' => Q (.inr Z) h' (n + n')) hX hJ X hl hP hD hS hdg hn hM hcY hG hini hrc hrs hkc hks hfr hlo hst hro hF (fun Z h' n' T' locs' a cell hq X' hP' hD' hS' ha hv hc1 hc2 => ?_)
  obtain ⟨h1, h2, h3, h4, h5⟩ := X'.leaveThrown a (g := F0 m pc ls (rest.map (xv ρ))) rfl rfl rfl (fun x hx => by
    have : c.exceptionTable.toList = [] := by
      have := Array.isEmpty_iff.mp hex
      rw [this]
    rw [this] at hx
    cases hx) hlk
  exact ⟨_, h1, .threw a, h2, h3, .inr Z, h', n + n', hq, ⟨a, cell, rfl, ha, hv, hc1, hc2⟩, hP', hD', ⟨hS'.1, fun q z1 z2 => hS'.2.1 q z1 z2⟩, h4, locs', h5, hS'.2.2⟩
end XK

section XJ
variable {k0 : Nat × Nat} {Ex : Code → State → (Nat → Nat) → (Nat → Prop) → Prop} {cl : List vw_C} {own : String} {Ts : List Cond} {cc : ByteArray} {nL : Nat} {ret : Option FieldType} {R : Room} {pc : Nat}
theorem take_app {α : Type} (np : Nat) (st : List α) : (st.take np).reverse.reverse ++ st.drop np = st := by rw [List.reverse_reverse, List.take_append_drop]

theorem s_callS {F : xP} {np rc rk i : Nat} {y : MethodName} {ws ws' : List Cond} {rm : Room} {bytes : ByteArray} {maxL : Nat} {rt : Option FieldType} (hM : xMet cl y ws rm F) (hd : decode cc pc = .ok (.invokestatic i, 3)) (hw : ws = Cond.code y bytes maxL rt :: ws') (hG : xGood Ts ws)
    (hlink : Cond.methodLink own i y ∈ Ts) (hstat : Cond.static y ∈ Ts) (hini : Cond.initialized y.cls ∈ Ts) (hy : y.cls ≠ "java/lang/invoke/MethodHandle" ∧ y.cls ≠ "java/lang/invoke/VarHandle" ∧ (parseMethodDescriptor y.desc).map (fun d => d.parameters.length) = some np)
    (hrc : k0.1 + rc ≤ R.cells ∧ k0.2 + 6 * rc ≤ R.slots ∧ rm.cells = rk ∧ rm.slots = 6 * rk ∧ rm.frames + 1 ≤ R.frames ∧ 8 + (maxL + 11) + rm.locals ≤ R.locals) (hex : ∀ c s ρ A, Ex c s ρ A → c.exceptionTable.isEmpty = true) : xSd k0 Ex cl own Ts cc nL ret R (pc, o_call F np rc rk) := by
  intro p l e s m args below meth c D cA ρ A X Q J x hpc hJ ho H locs ls hl hP hD hS
  obtain ⟨pc', L, st, h, n⟩ := x
  obtain rfl : pc' = pc := hpc
  obtain ⟨h0, ho⟩ := bif_t ho
  rw [Bool.and_eq_true, Bool.and_eq_true] at h0
  dsimp only at h0 ho
  have hlen : (st.take np).length = np := by rw [List.length_take]; exact Nat.min_eq_left (Nat.le_of_ble_eq_true h0.1)
  intro T hT S
  subst hT
  have hts := X.2.2.2.2.2.2.1
  have hcw : Cond.code y bytes maxL rt ∈ ws := by rw [hw]; exact List.mem_cons_self
  have hcode := hts _ (hG _ hcw).1
  obtain ⟨mk, hnamed⟩ := Cond.code_named hcode
  obtain ⟨methM, cM, hmethM, hcM, -, hlM, -, -, -, hsigM⟩ := Cond.code_spec hnamed hcode
  have hstatic : methM.isStatic = true := Cond.static_spec hnamed hmethM (hts _ hstat)
  obtain ⟨kP, hkP, -⟩ := className_of_methodNamed hnamed
  have hinitP : kP.init = .initialized := Cond.initialized_spec (findClass_of_methodNamed hnamed) hkP (hts _ hini)
  have hpl : ((st.take np).reverse.map (xv ρ)).length = methM.sig.parameters.length := by
    have h2 := hy.2.2
    rw [hsigM] at h2
    rw [List.length_map, List.length_reverse, hlen]
    exact (Option.some.inj h2).symm
  obtain ⟨vm₁, X₁, hstep₁⟩ := S.invokestatic X.1 X.2.2.2.2.2.1 (hts _ hlink) hnamed hmethM hstatic hkP hinitP ⟨hy.1, hy.2.1⟩ (g := F0 m pc' ls (st.map (xv ρ))) rfl (argsL := (st.take np).reverse.map (xv ρ)) (rest := (st.drop np).map (xv ρ)) hpl (by
    show st.map (xv ρ) = _
    rw [← List.map_reverse, ← List.map_append, take_app]) (by rw [X.2.1]; exact hd)
  obtain ⟨t, a1, b1⟩ := x_call (T := T.setVm vm₁) X hJ (pc := pc') (ls := ls) (rest := st.drop np) (vs := (st.take np).reverse) X₁ hl hP hD hS hd (X₁.named hnamed) hM ⟨methM, cM, by rw [X₁.warmed.alike.method?]; exact hmethM, hcM, hlM⟩ hG hini hex hrc.1 hrc.2.1 hrc.2.2.1 hrc.2.2.2.1 hrc.2.2.2.2.1 hrc.2.2.2.2.2 (Nat.le_of_ble_eq_true h0.2.1) (Nat.le_of_ble_eq_true h0.2.2) ho
  exact ⟨t, hstep₁ _ fun acts => by rw [doInvoke_state]; exact a1, b1⟩
theorem s_callSN {F : xP} {np rc rk i : Nat} {host : String} {y : MethodName} {ws ws' : List Cond} {rm : Room} {bytes : ByteArray} {maxL : Nat} {rt : Option FieldType} (hM : xMet cl y ws rm F) (hd : decode cc pc = .ok (.invokestatic i, 3)) (hw : ws = Cond.code y bytes maxL rt :: ws') (hG : xGood Ts ws)
    (hlink : Cond.methodLinkNest own i y host ∈ Ts) (hstat : Cond.static y ∈ Ts) (hini : Cond.initialized y.cls ∈ Ts) (hy : y.cls ≠ "java/lang/invoke/MethodHandle" ∧ y.cls ≠ "java/lang/invoke/VarHandle" ∧ (parseMethodDescriptor y.desc).map (fun d => d.parameters.length) = some np)
    (hrc : k0.1 + rc ≤ R.cells ∧ k0.2 + 6 * rc ≤ R.slots ∧ rm.cells = rk ∧ rm.slots = 6 * rk ∧ rm.frames + 1 ≤ R.frames ∧ 8 + (maxL + 11) + rm.locals ≤ R.locals) (hex : ∀ c s ρ A, Ex c s ρ A → c.exceptionTable.isEmpty = true) : xSd k0 Ex cl own Ts cc nL ret R (pc, o_call F np rc rk) := by
  intro p l e s m args below meth c D cA ρ A X Q J x hpc hJ ho H locs ls hl hP hD hS
  obtain ⟨pc', L, st, h, n⟩ := x
  obtain rfl : pc' = pc := hpc
  obtain ⟨h0, ho⟩ := bif_t ho
  rw [Bool.and_eq_true, Bool.and_eq_true] at h0
  dsimp only at h0 ho
  have hlen : (st.take np).length = np := by rw [List.length_take]; exact Nat.min_eq_left (Nat.le_of_ble_eq_true h0.1)
  intro T hT S
  subst hT
  have hts := X.2.2.2.2.2.2.1
  have hcw : Cond.code y bytes maxL rt ∈ ws := by rw [hw]; exact List.mem_cons_self
  have hcode := hts _ (hG _ hcw).1
  obtain ⟨mk, hnamed⟩ := Cond.code_named hcode
  obtain ⟨methM, cM, hmethM, hcM, -, hlM, -, -, -, hsigM⟩ := Cond.code_spec hnamed hcode
  have hstatic : methM.isStatic = true := Cond.static_spec hnamed hmethM (hts _ hstat)
  obtain ⟨kP, hkP, -⟩ := className_of_methodNamed hnamed
  have hinitP : kP.init = .initialized := Cond.initialized_spec (findClass_of_methodNamed hnamed) hkP (hts _ hini)
  have hpl : ((st.take np).reverse.map (xv ρ)).length = methM.sig.parameters.length := by
    have h2 := hy.2.2
    rw [hsigM] at h2
    rw [List.length_map, List.length_reverse, hlen]
    exact (Option.some.inj h2).symm
  obtain ⟨vm₁, X₁, hstep₁⟩ := S.invokestaticNest X.1 X.2.2.2.2.2.1 (hts _ hlink) hnamed hmethM hstatic hkP hinitP ⟨hy.1, hy.2.1⟩ (g := F0 m pc' ls (st.map (xv ρ))) rfl (argsL := (st.take np).reverse.map (xv ρ)) (rest := (st.drop np).map (xv ρ)) hpl (by
    show st.map (xv ρ) = _
    rw [← List.map_reverse, ← List.map_append, take_app]) (by rw [X.2.1]; exact hd)
  obtain ⟨t, a1, b1⟩ := x_call (T := T.setVm vm₁) X hJ (pc := pc') (ls := ls) (rest := st.drop np) (vs := (st.take np).reverse) X₁ hl hP hD hS hd (X₁.named hnamed) hM ⟨methM, cM, by rw [X₁.warmed.alike.method?]; exact hmethM, hcM, hlM⟩ hG hini hex hrc.1 hrc.2.1 hrc.2.2.1 hrc.2.2.2.1 hrc.2.2.2.2.1 hrc.2.2.2.2.2 (Nat.le_of_ble_eq_true h0.2.1) (Nat.le_of_ble_eq_true h0.2.2) ho
  exact ⟨t, hstep₁ _ fun acts => by rw [doInvoke_state]; exact a1, b1⟩
/-- a call on an object: of the kind ci -/
def o_callV (F : xP) (ci np rc rk : Nat) : xOp := fun x k Q => match (x.2.2.1.drop np) with
  | .ref a :: _ => match x.2.2.2.1[a]? with
    | some (.inr (cj, _)) => bif Nat.beq cj ci then o_call F (np + 1) rc rk x k Q else False
    | _ => False
  | _ => False

theorem s_callV {F : xP} {ci np rc rk i : Nat} {C : String} {T0 : u_T} {N : Nat} {y : MethodName} {ws ws' : List Cond} {rm : Room} {bytes : ByteArray} {maxL : Nat} {rt : Option FieldType} (hM : xMet cl y ws rm F) (hd : decode cc pc = .ok (.invokevirtual i, 3)) (hw : ws = Cond.code y bytes maxL rt :: ws') (hG : xGood Ts ws) (hc : cl[ci]? = some (C, T0, N))
    (hlink : Cond.methodLink own i y ∈ Ts) (hinst : Cond.instanceMethod y ∈ Ts) (hsel : Cond.selects C y y ∈ Ts) (hini : Cond.initialized y.cls ∈ Ts) (hy : y.cls ≠ "java/lang/invoke/MethodHandle" ∧ y.cls ≠ "java/lang/invoke/VarHandle" ∧ (parseMethodDescriptor y.desc).map (fun d => d.parameters.length) = some np)
    (hrc : k0.1 + rc ≤ R.cells ∧ k0.2 + 6 * rc ≤ R.slots ∧ rm.cells = rk ∧ rm.slots = 6 * rk ∧ rm.frames + 1 ≤ R.frames ∧ 8 + (maxL + 11) + rm.locals ≤ R.locals) (hex : ∀ c s ρ A, Ex c s ρ A → c.exceptionTable.isEmpty = true) : xSd k0 Ex cl own Ts cc nL ret R (pc, o_callV F ci np rc rk) := by
  intro p l e s m args below meth c D cA ρ A X Q J x hpc hJ ho H locs ls hl hP hD hS
  obtain ⟨pc', L, st, h, n⟩ := x
  obtain rfl : pc' = pc := hpc
  dsimp only [o_callV] at ho
  split at ho
  · rename_i a r0 hdr
    split at ho
    · rename_i cj fs he
      obtain ⟨hcc, ho1⟩ := bif_t ho
      obtain rfl : cj = ci := Nat.eq_of_beq_eq_true hcc
      clear ho
      unfold o_call at ho1
      obtain ⟨h0, ho⟩ := bif_t ho1
      rw [Bool.and_eq_true, Bool.and_eq_true] at h0
      dsimp only at h0 ho
      have hdr1 : st.drop (np + 1) = r0 := by
        rw [← List.drop_drop, hdr]; rfl
      have hlt : np < st.length := Nat.le_of_ble_eq_true h0.1
      have hlen : (st.take np).length = np := by rw [List.length_take]; omega
      have htk : (st.take (np + 1)).reverse = .ref a :: (st.take np).reverse := by
        have e1 : st = st.take np ++ .ref a :: r0 := by rw [← hdr, List.take_append_drop]
        have e2 : st.take (np + 1) = st.take np ++ [.ref a] := by
          conv => lhs; rw [e1]
          rw [List.take_append, List.take_of_length_le (by omega), hlen]
          simp
        rw [e2]; simp
      intro T hT S
      subst hT
      have hts := X.2.2.2.2.2.2.1
      have hcw : Cond.code y bytes maxL rt ∈ ws := by rw [hw]; exact List.mem_cons_self
      have hcode := hts _ (hG _ hcw).1
      obtain ⟨mk, methM, hnamed, hmethM, hstM, habM⟩ := Cond.instanceMethod_spec (hts _ hinst)
      obtain ⟨methM', cM, hmethM', hcM, -, hlM, -, -, -, hsigM⟩ := Cond.code_spec hnamed hcode
      cases hmethM.symm.trans hmethM'
      obtain ⟨c2, r2, m2, q1, q2, q3, q4, kP, hkP, hkPi⟩ := Cond.selects_spec (hts _ hsel)
      obtain ⟨cell, hcell, hclB, hoB⟩ : ∃ cell : Cell, T.heap[ρ a]? = some cell ∧ s.vm.findClass C = some cell.cls ∧ cell.vm.isStatics = false := by
        obtain ⟨r, h1, cell, w1, w2, w3, w4⟩ := hP a _ (xw_at he)
        have hr : r = (C, T0, N) := Option.some.inj (h1.symm.trans hc)
        subst hr
        have hk1 := (X.2.2.2.2.2.2.2.1).1 _ _ hc
        exact ⟨cell, w1, by rw [w2]; exact hk1.2.1, by rw [w3]; rfl⟩
      cases hclB.symm.trans q1
      cases (State.methodFound?_of_named hnamed ⟨hy.1, hy.2.1⟩).symm.trans q2
      cases hnamed.symm.trans q3
      have hselP : selectMethod e.platform s.vm cell.cls mk = .method mk := by rw [Launch.admits_selectMethod S.admits]; exact q4
      have hpl : ((st.take np).reverse.map (xv ρ)).length = methM.sig.parameters.length := by
        have h2 := hy.2.2
        rw [hsigM] at h2
        rw [List.length_map, List.length_reverse, hlen]
        exact (Option.some.inj h2).symm
      obtain ⟨vm₁, X₁, hstep₁⟩ := S.invokevirtual X.1 X.2.2.2.2.2.1 (hts _ hlink) hnamed hmethM hstM hkP hkPi ⟨hy.1, hy.2.1⟩ (a := ρ a) (cell := cell) hcell (fun z q => by rw [q] at hoB; cases hoB) hselP hmethM habM hkP hkPi (g := F0 m pc' ls (st.map (xv ρ))) rfl (argsL := (st.take np).reverse.map (xv ρ)) (rest := (st.drop (np + 1)).map (xv ρ)) hpl (by
        show st.map (xv ρ) = _
        rw [← List.map_reverse, List.reverse_reverse, hdr1]
        conv => lhs; rw [← List.take_append_drop np st, hdr]
        rw [List.map_append]; rfl) (by rw [X.2.1]; exact hd)
      rw [htk] at ho
      obtain ⟨t, a1, b1⟩ := x_call (T := T.setVm vm₁) X hJ (pc := pc') (ls := ls) (rest := st.drop (np + 1)) (vs := .ref a :: (st.take np).reverse) X₁ hl hP hD hS hd (X₁.named hnamed) hM ⟨methM, cM, by rw [X₁.warmed.alike.method?]; exact hmethM, hcM, hlM⟩ hG hini hex hrc.1 hrc.2.1 hrc.2.2.1 hrc.2.2.2.1 hrc.2.2.2.2.1 hrc.2.2.2.2.2 (Nat.le_of_ble_eq_true h0.2.1) (Nat.le_of_ble_eq_true h0.2.2) ho
      exact ⟨t, hstep₁ _ fun acts => by rw [doInvoke_state]; exact a1, b1⟩
    · exact ho.elim
  · exact ho.elim
theorem s_callVN {F : xP} {ci np rc rk i : Nat} {C : String} {T0 : u_T} {N : Nat} {host : String} {y : MethodName} {ws ws' : List Cond} {rm : Room} {bytes : ByteArray} {maxL : Nat} {rt : Option FieldType} (hM : xMet cl y ws rm F) (hd : decode cc pc = .ok (.invokevirtual i, 3)) (hw : ws = Cond.code y bytes maxL rt :: ws') (hG : xGood Ts ws) (hc : cl[ci]? = some (C, T0, N))
    (hlink : Cond.methodLinkNest own i y host ∈ Ts) (hinst : Cond.instanceMethod y ∈ Ts) (hsel : Cond.selects C y y ∈ Ts) (hini : Cond.initialized y.cls ∈ Ts) (hy : y.cls ≠ "java/lang/invoke/MethodHandle" ∧ y.cls ≠ "java/lang/invoke/VarHandle" ∧ (parseMethodDescriptor y.desc).map (fun d => d.parameters.length) = some np)
    (hrc : k0.1 + rc ≤ R.cells ∧ k0.2 + 6 * rc ≤ R.slots ∧ rm.cells = rk ∧ rm.slots = 6 * rk ∧ rm.frames + 1 ≤ R.frames ∧ 8 + (maxL + 11) + rm.locals ≤ R.locals) (hex : ∀ c s ρ A, Ex c s ρ A → c.exceptionTable.isEmpty = true) : xSd k0 Ex cl own Ts cc nL ret R (pc, o_callV F ci np rc rk) := by
  intro p l e s m args below meth c D cA ρ A X Q J x hpc hJ ho H locs ls hl hP hD hS
  obtain ⟨pc', L, st, h, n⟩ := x
  obtain rfl : pc' = pc := hpc
  dsimp only [o_callV] at ho
  split at ho
  · rename_i a r0 hdr
    split at ho
    · rename_i cj fs he
      obtain ⟨hcc, ho1⟩ := bif_t ho
      obtain rfl : cj = ci := Nat.eq_of_beq_eq_true hcc
      clear ho
      unfold o_call at ho1
      obtain ⟨h0, ho⟩ := bif_t ho1
      rw [Bool.and_eq_true, Bool.and_eq_true] at h0
      dsimp only at h0 ho
      have hdr1 : st.drop (np + 1) = r0 := by
        rw [← List.drop_drop, hdr]; rfl
      have hlt : np < st.length := Nat.le_of_ble_eq_true h0.1
      have hlen : (st.take np).length = np := by rw [List.length_take]; omega
      have htk : (st.take (np + 1)).reverse = .ref a :: (st.take np).reverse := by
        have e1 : st = st.take np ++ .ref a :: r0 := by rw [← hdr, List.take_append_drop]
        have e2 : st.take (np + 1) = st.take np ++ [.ref a] := by
          conv => lhs; rw [e1]
          rw [List.take_append, List.take_of_length_le (by omega), hlen]
          simp
        rw [e2]; simp
      intro T hT S
      subst hT
      have hts := X.2.2.2.2.2.2.1
      have hcw : Cond.code y bytes maxL rt ∈ ws := by rw [hw]; exact List.mem_cons_self
      have hcode := hts _ (hG _ hcw).1
      obtain ⟨mk, methM, hnamed, hmethM, hstM, habM⟩ := Cond.instanceMethod_spec (hts _ hinst)
      obtain ⟨methM', cM, hmethM', hcM, -, hlM, -, -, -, hsigM⟩ := Cond.code_spec hnamed hcode
      cases hmethM.symm.trans hmethM'
      obtain ⟨c2, r2, m2, q1, q2, q3, q4, kP, hkP, hkPi⟩ := Cond.selects_spec (hts _ hsel)
      obtain ⟨cell, hcell, hclB, hoB⟩ : ∃ cell : Cell, T.heap[ρ a]? = some cell ∧ s.vm.findClass C = some cell.cls ∧ cell.vm.isStatics = false := by
        obtain ⟨r, h1, cell, w1, w2, w3, w4⟩ := hP a _ (xw_at he)
        have hr : r = (C, T0, N) := Option.some.inj (h1.symm.trans hc)
        subst hr
        have hk1 := (X.2.2.2.2.2.2.2.1).1 _ _ hc
        exact ⟨cell, w1, by rw [w2]; exact hk1.2.1, by rw [w3]; rfl⟩
      cases hclB.symm.trans q1
      cases (State.methodFound?_of_named hnamed ⟨hy.1, hy.2.1⟩).symm.trans q2
      cases hnamed.symm.trans q3
      have hselP : selectMethod e.platform s.vm cell.cls mk = .method mk := by rw [Launch.admits_selectMethod S.admits]; exact q4
      have hpl : ((st.take np).reverse.map (xv ρ)).length = methM.sig.parameters.length := by
        have h2 := hy.2.2
        rw [hsigM] at h2
        rw [List.length_map, List.length_reverse, hlen]
        exact (Option.some.inj h2).symm
      obtain ⟨vm₁, X₁, hstep₁⟩ := S.invokevirtualNest X.1 X.2.2.2.2.2.1 (hts _ hlink) hnamed hmethM hstM hkP hkPi ⟨hy.1, hy.2.1⟩ (a := ρ a) (cell := cell) hcell (fun z q => by rw [q] at hoB; cases hoB) hselP hmethM habM hkP hkPi (g := F0 m pc' ls (st.map (xv ρ))) rfl (argsL := (st.take np).reverse.map (xv ρ)) (rest := (st.drop (np + 1)).map (xv ρ)) hpl (by
        show st.map (xv ρ) = _
        rw [← List.map_reverse, List.reverse_reverse, hdr1]
        conv => lhs; rw [← List.take_append_drop np st, hdr]
        rw [List.map_append]; rfl) (by rw [X.2.1]; exact hd)
      rw [htk] at ho
      obtain ⟨t, a1, b1⟩ := x_call (T := T.setVm vm₁) X hJ (pc := pc') (ls := ls) (rest := st.drop (np + 1)) (vs := .ref a :: (st.take np).reverse) X₁ hl hP hD hS hd (X₁.named hnamed) hM ⟨methM, cM, by rw [X₁.warmed.alike.method?]; exact hmethM, hcM, hlM⟩ hG hini hex hrc.1 hrc.2.1 hrc.2.2.1 hrc.2.2.2.1 hrc.2.2.2.2.1 hrc.2.2.2.2.2 (Nat.le_of_ble_eq_true h0.2.1) (Nat.le_of_ble_eq_true h0.2.2) ho
      exact ⟨t, hstep₁ _ fun acts => by rw [doInvoke_state]; exact a1, b1⟩
    · exact ho.elim
  · exact ho.elim
end XJ
end
section
-- A NEW EXCEPTION IS MADE, WITH ITS MESSAGE, AND THROWN (over the library's laws of Throwable's constructors, launches without stack traces)
def xOwn (own : String) (ic : Nat) (X : String) (j : Nat) (bs : ByteArray) : List Cond := Bundle.throwableAtoms ++ (Bundle.throwableSAtoms ++ (Bundle.passSAtoms X Bundle.rN j bs ++ (Bundle.chainSAtoms Bundle.rN ["java/lang/Exception"] ++
  [.methodLink own ic (Bundle.initS X), .instantiable X 6, .selects X Bundle.tFill0 Bundle.tFill0, .selects X Bundle.tFill Bundle.tFill,
   .lays X Bundle.tN "cause" "Ljava/lang/Throwable;", .lays X Bundle.tN "stackTrace" Bundle.steD, .lays X Bundle.tN "suppressedExceptions" Bundle.listD, .lays X Bundle.tN "detailMessage" "Ljava/lang/String;",
   .isRef (.static Bundle.tN "UNASSIGNED_STACK" Bundle.steD), .isRef (.static Bundle.tN "SUPPRESSED_SENTINEL" Bundle.listD),
   .fieldLink Bundle.tN 198 Bundle.tN "backtrace" "Ljava/lang/Object;", .lays Bundle.tN Bundle.tN "backtrace" "Ljava/lang/Object;", .lays X Bundle.tN "backtrace" "Ljava/lang/Object;"])))
section XT
variable {p : Program} {l : Launch} {e : Env} {R : Room} {s : State} {m₀ : MethodId} {args : Array Value} {below : List Frame} {meth : Method} {c : Code} {W : State} {locs : List Loc} {cells slots : Nat}
set_option maxHeartbeats 1000000 in
theorem x_throw (X : Stand p l e R s m₀ args below meth c W locs cells slots) (hexec : p.tables.exec = Jvm.exec) (htr : e.platform.stackTraces = false) {own cls : String} {ic j : Nat} {bs : ByteArray}
    (hown : s.vm.findClass own = some m₀.cls) (hcls : Bundle.fit cls = true) (k0 : decode bs 0 = .ok (.aload_n 0, 1)) (k1 : decode bs 1 = .ok (.aload_n 1, 1)) (k2 : decode bs 2 = .ok (.invokespecial j, 3)) (k5 : decode bs 5 = .ok (.return_, 1))
    (h : ∀ a ∈ xOwn own ic cls j bs, a.before args s = true)
    (hkeep : ∀ (a : Nat) (cell : Cell), s.heap[a]? = some cell → cell.vm.isStatics = true → W.heap[a]? = some cell)
    {a : Addr} {cX : ClassId} {kX : Class} (hfoundX : s.vm.findClass cls = some cX) (hkX : s.vm.classes[cX]? = some kX) (hcell : W.heap[a]? = some (freshCell cX kX)) (hnew : s.heap.size ≤ a)
    {msg : Value} (hmsg : msg.isRef = true)
    {g : JFrame} (hg : g.method = m₀) (hsize : g.locals.size = c.maxLocals) (hlocked : g.locked = none) (hentered : g.entered = []) {rest : List Value} (hstack : g.stack = msg :: .ref a :: .ref a :: rest)
    (hd6 : decode c.code g.pc = .ok (.invokespecial ic, 3)) (hd9 : decode c.code (g.pc + 3) = .ok (.athrow, 1)) (hout : ∀ x ∈ c.exceptionTable.toList, covers x (g.pc + 3) = false)
    (hRframes : 5 < R.frames) (hRlocals : 2 * g.monitorRoom + ((Value.ref a :: rest).map fun v => v.category).sum + 81 ≤ R.locals) (hlocks : meth.locks = false) :
    ∃ (U : State) (ce : Cell), Steps p.tables e below (W.setTop g) U ∧ U.status = .running ∧ Ended U below (.threw a) ∧ s.WarmedH U.vm ∧ s.sameButNew ({ U with vm := s.vm } : State) locs cells slots ∧
      U.heap[a]? = some ce ∧ ce.cls = cX ∧ ce.vm = .none ∧ U.heap.size = W.heap.size ∧ ∀ q : Nat, q ≠ a → U.heap[q]? = W.heap[q]? := by
  have howns : e.platform.frameOwnsMonitors = true := by rw [X.admits.platform]
  have hfin : e.platform.finalization = false := by rw [X.admits.platform]
  have hpl : e.platform.magicAccessors = ({} : Platform).magicAccessors := by rw [X.admits.platform]
  have a' : ∀ x, x ∈ xOwn own ic cls j bs → x.holds args s none s [] = true := fun x hx => h x hx
  obtain ⟨T, Z0, L, -, Y⟩ := ThrowableC.of_atoms (args := args) howns hfin hpl (fun x hx => h x (by simp [xOwn, hx]))
  obtain ⟨Z, M, LZ, LM, hnZ⟩ := Init0T.ofS_atoms (args := args) hpl L Y (fun x hx => h x (by simp [xOwn, hx]))
  obtain ⟨P2, Ps, hlen, L2, hL, hP2m, hlink2, hlink⟩ := Bundle.chainS (args := args) hpl hnZ ["java/lang/Exception"] Bundle.rN (by decide +kernel) (by intro n hn; rcases List.mem_cons.mp hn with rfl | hn; decide +kernel; cases hn) (fun x hx => h x (by simp only [xOwn, List.mem_append]; exact Or.inr (Or.inr (Or.inr (Or.inl hx)))))
  obtain ⟨P1, L1, hP1m, hP1s⟩ := PassC.ofS_atoms (args := args) (s := s) hpl (X := cls) (Y := Bundle.rN) (Bundle.fit_spec hcls).1 (by decide +kernel) k0 k1 k2 k5 (fun x hx => h x (by simp only [xOwn, List.mem_append]; exact Or.inr (Or.inr (Or.inl hx))))
  have hlink1 : P1.sup = firstOf (Z.m T.toThrowableT) ((P2 :: Ps).map (·.toPassT)) := Option.some.inj (hP1s.symm.trans hP2m)
  have hfound : s.vm.findClass cls = some P1.m.cls := findClass_of_methodNamed hP1m
  cases Option.some.inj (hfoundX.symm.trans hfound)
  obtain ⟨c1, kX', hc1, hk, hord, -, -, hn6⟩ := Cond.instantiable_spec (a' (.instantiable cls 6) (by simp [xOwn]))
  cases Option.some.inj (hc1.symm.trans hfound)
  cases Option.some.inj (hkX.symm.trans hk)
  have hsel0 : selectMethod e.platform s.vm P1.m.cls T.fill0 = .method T.fill0 := by
    obtain ⟨c2, r2, m2, q1, q2, q3, q4, -⟩ := Cond.selects_spec (a' (.selects cls Bundle.tFill0 Bundle.tFill0) (by simp [xOwn]))
    cases Option.some.inj (q1.symm.trans hfound)
    cases Option.some.inj (q2.symm.trans (State.methodFound?_of_named Y.fill0 (by decide)))
    cases Option.some.inj (q3.symm.trans Y.fill0)
    rw [Launch.admits_selectMethod X.admits]; exact q4
  have hselF : selectMethod e.platform s.vm P1.m.cls T.fill = .method T.fill := by
    obtain ⟨c2, r2, m2, q1, q2, q3, q4, -⟩ := Cond.selects_spec (a' (.selects cls Bundle.tFill Bundle.tFill) (by simp [xOwn]))
    cases Option.some.inj (q1.symm.trans hfound)
    cases Option.some.inj (q2.symm.trans (State.methodFound?_of_named Y.fill (by decide)))
    cases Option.some.inj (q3.symm.trans Y.fill)
    rw [Launch.admits_selectMethod X.admits]; exact q4
  obtain ⟨cellS, hcS0, hiss⟩ := Y.statics
  obtain ⟨u0, hu0⟩ := Cond.staticRefV Y.unassigned L.unassignedStatic L.statics hcS0 hiss (a' (.isRef (.static Bundle.tN "UNASSIGNED_STACK" Bundle.steD)) (by simp [xOwn]))
  obtain ⟨sen, hsen⟩ := Cond.staticRefV Y.sentinel L.sentinelStatic L.statics hcS0 hiss (a' (.isRef (.static Bundle.tN "SUPPRESSED_SENTINEL" Bundle.listD)) (by simp [xOwn]))
  obtain ⟨ci198, i198, fB, hk198, hg198, ha198, hsB, -, hnB, htB, hffB⟩ := Cond.ownField (t := .object "java/lang/Object") Y.found L.cls (by decide +kernel) (a' (.fieldLink Bundle.tN 198 Bundle.tN "backtrace" "Ljava/lang/Object;") (by simp [xOwn])) (a' (.lays Bundle.tN Bundle.tN "backtrace" "Ljava/lang/Object;") (by simp [xOwn])) e.platform hpl
  have hcellS : W.heap[T.aS]? = some cellS := hkeep _ _ hcS0 hiss
  have hknownS : cellS.vm ≠ .unknown := by
    intro hu
    rw [hu] at hiss
    cases hiss
  have hneS : T.aS ≠ a := Nat.ne_of_lt (Nat.lt_of_lt_of_le (Array.getElem?_eq_some_iff.mp hcS0).1 hnew)
  obtain ⟨iM, hffM⟩ := Y.msg
  obtain ⟨tyC, dC, hdC, hdnC⟩ := Cond.laysAt hfound hk Y.cause (a' (.lays cls Bundle.tN "cause" "Ljava/lang/Throwable;") (by simp [xOwn]))
  obtain ⟨tyS, dS, hdS, hdnS⟩ := Cond.laysAt hfound hk Y.stack (a' (.lays cls Bundle.tN "stackTrace" Bundle.steD) (by simp [xOwn]))
  obtain ⟨tyP, dP, hdP, hdnP⟩ := Cond.laysAt hfound hk Y.supp (a' (.lays cls Bundle.tN "suppressedExceptions" Bundle.listD) (by simp [xOwn]))
  obtain ⟨tyM, dM, hdM, hdnM⟩ := Cond.laysAt hfound hk hffM (a' (.lays cls Bundle.tN "detailMessage" "Ljava/lang/String;") (by simp [xOwn]))
  obtain ⟨tyB, dB, hdB, hdnB⟩ := Cond.laysAt hfound hk hffB (a' (.lays cls Bundle.tN "backtrace" "Ljava/lang/Object;") (by simp [xOwn]))
  have bC := Cond.laysApart hdB hdC hdnB hdnC (by rw [hnB, Y.causeName]; decide)
  have bS := Cond.laysApart hdB hdS hdnB hdnS (by rw [hnB, Y.stackName]; decide)
  have bP := Cond.laysApart hdB hdP hdnB hdnP (by rw [hnB, Y.suppName]; decide)
  have hskip : SkipFacts T e.platform s (fun u => u) u0 ((preparedCellV T.toThrowableT (freshCell P1.m.cls kX) a u0 sen).withEntry W.cur) :=
    ⟨{ ci198 := ci198, i198 := i198, fBack := fB }, ⟨hk198, hg198, ha198, hsB⟩, by
      have := fresh_default (c := P1.m.cls) tyB
      rw [htB] at this
      simpa [preparedCellV, Cell.setSlot, Cell.withEntry, Array.getElem?_setIfInBounds, bC, bS, bP, bC.symm, bS.symm, bP.symm, defaultValue] using this, fun _ _ => rfl⟩
  obtain ⟨tm, methC, cdC, kC, vm₁, hnC, -, -, -, -, -, -, -, hW₁, st1⟩ := Steps.initColdS (tb := p.tables) (e := e) (below := below) (s := s) (U := W) X.here hexec X.warmed hpl hown (t := Bundle.initS cls) rfl rfl (Bundle.fit_spec hcls).2
    (a' (.methodLink own ic (Bundle.initS cls)) (by simp [xOwn])) (h (.instanceMethod (Bundle.initS cls)) (by simp [xOwn, Bundle.passSAtoms])) (bytes := bs) (maxL := 2) (h (.code (Bundle.initS cls) bs 2 none) (by simp [xOwn, Bundle.passSAtoms]))
    (f := g) hg (a := a) (msg := msg) (rest := .ref a :: rest) hstack hd6
  cases Option.some.inj (hnC.symm.trans hP1m)
  have X₁ := X.noted hW₁
  obtain ⟨vm₂, X₂, st2⟩ := X₁.ctorMessageOffV hexec (g := { g with stack := .ref a :: rest }) hg hsize T L Z LZ M LM (P1 :: P2 :: Ps)
    (fun P hP => by rcases List.mem_cons.mp hP with rfl | hP; exact L1; rcases List.mem_cons.mp hP with rfl | hP; exact L2; exact hL P hP) ⟨hlink1, hlink2, hlink⟩ (u0 := u0) (sen := sen) (self := a) hmsg (cell := freshCell P1.m.cls kX) (cellS := cellS)
    hcell (fun _ => by simp) (by simp) rfl rfl hsel0 hselF hcellS hneS hknownS hu0 hsen
    (Takes.of_laid hk hord tyC (by rw [Y.causeType]; rfl)) (Takes.of_laid hk hord tyS (by rw [Y.stackType]; exact fits_refV_array _ u0)) (Takes.of_laid hk hord tyP (by rw [Y.suppType]; exact fits_refV_object _ sen))
    (Takes.of_laid hk hord tyM (by rw [Y.msgType]; exact fits_refV_object _ ⟨msg, hmsg⟩)) Y.objLocals hskip htr [] hd6
    (by simp only [List.length_cons, hlen, List.length_nil]; omega) (by simp only [List.length_cons, hlen, List.length_nil]; exact hRlocals)
  obtain ⟨hwalk, hrun, hended, hWU, hsame⟩ := X₂.athrowLeaves hexec (g := { g with stack := .ref a :: rest, pc := g.pc + 3 }) hg hlocked hentered hout (a := a) (rest := rest) rfl hd9 hlocks
  have hlt : a < ((W.setVm vm₁).setVm vm₂).heap.size := (Array.getElem?_eq_some_iff.mp hcell).1
  have hU := heapAt_setCell_self (s := (W.setVm vm₁).setVm vm₂) (plainBareV T.toThrowableT (freshCell P1.m.cls kX) a u0 sen msg) hlt
  refine ⟨_, _, st1 _ (fun acts => ?_), hrun, hended, hWU, hsame.weaken (fun y hy hlt' => ?_) (Nat.le_refl _) (Nat.le_refl _), hU, rfl, rfl, ?_, fun q hq => ?_⟩
  · rw [doInvoke_state]
    exact st2 _ hwalk
  · rcases List.mem_append.mp hy with h1 | h1
    · exact h1
    · exfalso
      have hb : y.base = a := by
        simp only [List.mem_cons, List.not_mem_nil, or_false] at h1
        rcases h1 with rfl | rfl | rfl | rfl | rfl <;> rfl
      rw [hb] at hlt'
      exact Nat.not_lt.mpr hnew hlt'
  · exact size_setCell _ _ _
  · show (W.heap.setIfInBounds a _)[q]? = W.heap[q]?
    exact Array.getElem?_setIfInBounds_ne (fun z => hq z.symm)
end XT
end
section
def xHw : List Cond := [.laysStatic "java/lang/Throwable" "UNASSIGNED_STACK" "[Ljava/lang/StackTraceElement;", .isRef (.static "java/lang/Throwable" "UNASSIGNED_STACK" "[Ljava/lang/StackTraceElement;"), .laysStatic "java/lang/Throwable" "SUPPRESSED_SENTINEL" "Ljava/util/List;", .isRef (.static "java/lang/Throwable" "SUPPRESSED_SENTINEL" "Ljava/util/List;")]
theorem xHs_w {s : State} {args : Array Value} (h : xHs s) : ∀ w ∈ xHw, w.before args s = true := by
  have k1 := ls_kept (U := s) (args' := args) (Vm.Alike.refl s.vm) (fun _ _ q _ => q) h.2.1.1
  have k2 := ls_kept (U := s) (args' := args) (Vm.Alike.refl s.vm) (fun _ _ q _ => q) h.2.2.1
  exact List.forall_mem_cons.mpr ⟨k1.1, List.forall_mem_cons.mpr ⟨k1.2 h.2.1.2, List.forall_mem_cons.mpr ⟨k2.1, List.forall_mem_cons.mpr ⟨k2.2 h.2.2.2, fun _ q => absurd q List.not_mem_nil⟩⟩⟩⟩
def o_throw (Z rc : Nat) : xOp := fun x _ Q => match x.2.2.1 with
  | [] => bif Nat.ble (x.2.2.2.2 + 1) rc then Q (.inr Z) x.2.2.2.1 (x.2.2.2.2 + 1) else False
  | _ => False
section XT
variable {k0 : Nat × Nat} {Ex : Code → State → (Nat → Nat) → (Nat → Prop) → Prop} {cl : List vw_C} {own : String} {Ts : List Cond} {cc : ByteArray} {nL : Nat} {ret : Option FieldType} {R : Room} {pc : Nat}
theorem s_throw {Z rc i ik ic j : Nat} {bs : ByteArray} {tx : String} (hd0 : decode cc pc = .ok (.new i, 3)) (hd3 : decode cc (pc + 3) = .ok (.dup, 1)) (hd4 : decode cc (pc + 4) = .ok (.ldc ik, 2)) (hd6 : decode cc (pc + 6) = .ok (.invokespecial ic, 3)) (hd9 : decode cc (pc + 9) = .ok (.athrow, 1))
    (hcl : Cond.classLink own i (xEx Z) ∈ Ts) (hins : Cond.instantiable (xEx Z) 6 ∈ Ts) (hini : Cond.initialized (xEx Z) ∈ Ts) (hstr : Cond.stringRef own ik tx ∈ Ts) (hfit : Bundle.fit (xEx Z) = true) (kd0 : decode bs 0 = .ok (.aload_n 0, 1)) (kd1 : decode bs 1 = .ok (.aload_n 1, 1)) (kd2 : decode bs 2 = .ok (.invokespecial j, 3)) (kd5 : decode bs 5 = .ok (.return_, 1))
    (how : ∀ w ∈ xOwn own ic (xEx Z) j bs, w ∈ Ts ∨ w ∈ xHw) (hrc : k0.1 + rc ≤ R.cells ∧ k0.2 + 6 * rc ≤ R.slots ∧ 5 < R.frames ∧ 82 ≤ R.locals) (hexE : ∀ c s ρ A, Ex c s ρ A → c.exceptionTable.isEmpty = true) : xSd k0 Ex cl own Ts cc nL ret R (pc, o_throw Z rc) := by
  intro p l e s m args below meth c D cA ρ A X Q J x hpc hJ ho H locs ls hl hP hD hS
  obtain ⟨pc', L, st, h, n⟩ := x
  obtain rfl : pc' = pc := hpc
  dsimp only [o_throw] at ho
  split at ho
  · obtain ⟨h1, h2⟩ := bif_t ho
    have hn : n + 1 ≤ rc := Nat.le_of_ble_eq_true h1
    obtain ⟨hx, hb, hml, hr, hlk, hown, hts, hK, hA, hex0, hlo, hns, hHs⟩ := X
    have hex := hexE _ _ _ _ hex0
    refine W.newc hx hb hown (hts _ hcl) (hts _ hins) (hts _ hini) (g := F0 m pc' ls ([].map (xv ρ))) rfl hd0 (by show k0.1 + n + 1 ≤ R.cells; have := hrc.1; omega) (by show k0.2 + 6 * n + 6 ≤ R.slots; have := hrc.2.1; omega) (fun cC kC hf hkC _ _ => ?_)
    refine lv_dup hx hb hd3 rfl ?_
    obtain ⟨_, _, _, q, -, -, -, -, -, hev⟩ := Cond.stringRef_spec hown (hts _ hstr)
    have hts0 := hts
    intro T hT S
    have hsize : ls.size = c.maxLocals := by rw [hml]; exact hl.1
    have st1 := S.ldcString hx hown (hts _ hstr) hev (g := F0 m (pc' + 3 + 1) ls [.ref H.size, .ref H.size]) rfl (by rw [hb]; exact hd4)
    have hs1 : s.heap.size ≤ H.size := hS.1
    have hput : ∀ z : Nat, z < H.size → T.heap[z]? = H[z]? := fun z hz => by rw [hT]; exact Array.getElem?_push_lt hz ▸ by simp [Array.getElem?_push, Nat.ne_of_lt hz]
    have hsz : T.heap.size = H.size + 1 := by rw [hT]; simp
    have hkeep : ∀ (a : Nat) (cell : Cell), s.heap[a]? = some cell → cell.vm.isStatics = true → T.heap[a]? = some cell := fun a cell q1 q2 => by
      have hlt : a < H.size := Nat.lt_of_lt_of_le (Array.getElem?_eq_some_iff.mp q1).1 hs1
      rw [hput a hlt]
      exact x_stat hS hns a cell q1 q2
    obtain ⟨U, ce, e1, e2, e3, e4, e5, e6, e7, e8, e9, e10⟩ := x_throw S hx (hlo e S.admits) (own := own) (cls := xEx Z) hown hfit kd0 kd1 kd2 kd5 (fun w hw => (how w hw).elim (fun q => hts _ q) (fun q => xHs_w hHs _ q)) hkeep (a := H.size) hf hkC (by rw [hT]; simp [freshCell]) hs1 (msg := .ref q) rfl
      (g := F0 m (pc' + 3 + 1 + 2) ls [.ref q, .ref H.size, .ref H.size]) rfl hsize rfl rfl (rest := []) rfl (by rw [hb]; exact hd6) (by rw [hb]; exact hd9) (fun x hx => by
        have : c.exceptionTable.toList = [] := by rw [Array.isEmpty_iff.mp hex]
        rw [this] at hx
        cases hx) hrc.2.2.1 (by show 2 * 0 + (1 + 0) + 81 ≤ R.locals; omega) hlk
    have hU : ∀ z : Nat, z < H.size → U.heap[z]? = H[z]? := fun z hz => by rw [e10 z (Nat.ne_of_lt hz), hput z hz]
    refine ⟨U, st1 U e1, .threw H.size, e2, e3, .inr Z, h, n + 1, h2, ⟨H.size, ce, rfl, e6, (fun k q => by rw [e8] at q; cases q), (by rw [e7]; exact hf), kC, (by rw [e7]; exact hkC)⟩, hP.kept (fun k y hy => hU _ ((hP k y hy).lt)), hD, ⟨by rw [e9, hsz]; omega, fun z q1 q2 => by rw [hU z (Nat.lt_of_lt_of_le q1 hs1)]; exact hS.2.1 z q1 q2⟩, e4, locs, e5, hS.2.2⟩
  · exact ho.elim
def o_max (rc : Nat) : xOp := fun x k _ => match x.2.2.1 with
  | .int b :: .int a :: r => bif Nat.ble (xcs r) 8 && Nat.ble x.2.2.2.2 rc then k (x.1 + 3, x.2.1, .int (if a < b then b else a) :: r, x.2.2.2.1, x.2.2.2.2) else False
  | _ => False
def o_min (rc : Nat) : xOp := fun x k _ => match x.2.2.1 with
  | .int b :: .int a :: r => bif Nat.ble (xcs r) 8 && Nat.ble x.2.2.2.2 rc then k (x.1 + 3, x.2.1, .int (if b < a then b else a) :: r, x.2.2.2.1, x.2.2.2.2) else False
  | _ => False
theorem s_max {i : Nat} (hd : decode cc pc = .ok (.invokestatic i, 3)) (hlink : Cond.methodLink own i Lib.Math.max.name ∈ Ts) (hstat : Cond.static Lib.Math.max.name ∈ Ts) (hini : Cond.initialized "java/lang/Math" ∈ Ts) (hcode : Cond.code Lib.Math.max.name Lib.Math.max.code 2 (some .int) ∈ Ts) (hr : 1 ≤ R.frames ∧ 21 ≤ R.locals ∧ True) {rc : Nat} (hrc : k0.1 + rc ≤ R.cells ∧ k0.2 + 6 * rc ≤ R.slots) : xSd k0 Ex cl own Ts cc nL ret R (pc, o_max rc) := by
  intro p l e s m args below meth c D cA ρ A X Q J x hpc hJ ho H locs ls hl hP hD hS
  obtain ⟨pc', L, st, h, n⟩ := x
  obtain rfl : pc' = pc := hpc
  dsimp only [o_max] at ho
  split at ho
  · rename_i b a r
    obtain ⟨h1, h2⟩ := bif_t ho
    obtain ⟨hx, hb, hml, -, -, hown, hts, -⟩ := X
    rw [Bool.and_eq_true] at h1
    have h3 : xcs r ≤ 8 := Nat.le_of_ble_eq_true h1.1
    have h4 : n ≤ rc := Nat.le_of_ble_eq_true h1.2
    refine va_mmax hx hb (by rw [hml]; exact hl.1.symm) hown (hts _ hlink) (hts _ hstat) (hts _ hini) (hts _ hcode) hr.1 (by rw [xcs_map]; omega) (by show k0.1 + n ≤ R.cells; have := hrc.1; omega) (by show k0.2 + 6 * n ≤ R.slots; have := hrc.2; omega) hd (hJ _ h2 H locs ls hl hP hD hS)
  · exact ho.elim
theorem s_min {i : Nat} (hd : decode cc pc = .ok (.invokestatic i, 3)) (hlink : Cond.methodLink own i Lib.Math.min.name ∈ Ts) (hstat : Cond.static Lib.Math.min.name ∈ Ts) (hini : Cond.initialized "java/lang/Math" ∈ Ts) (hcode : Cond.code Lib.Math.min.name Lib.Math.min.code 2 (some .int) ∈ Ts) (hr : 1 ≤ R.frames ∧ 21 ≤ R.locals ∧ True) {rc : Nat} (hrc : k0.1 + rc ≤ R.cells ∧ k0.2 + 6 * rc ≤ R.slots) : xSd k0 Ex cl own Ts cc nL ret R (pc, o_min rc) := by
  intro p l e s m args below meth c D cA ρ A X Q J x hpc hJ ho H locs ls hl hP hD hS
  obtain ⟨pc', L, st, h, n⟩ := x
  obtain rfl : pc' = pc := hpc
  dsimp only [o_min] at ho
  split at ho
  · rename_i b a r
    obtain ⟨h1, h2⟩ := bif_t ho
    obtain ⟨hx, hb, hml, -, -, hown, hts, -⟩ := X
    rw [Bool.and_eq_true] at h1
    have h3 : xcs r ≤ 8 := Nat.le_of_ble_eq_true h1.1
    have h4 : n ≤ rc := Nat.le_of_ble_eq_true h1.2
    refine va_mmin hx hb (by rw [hml]; exact hl.1.symm) hown (hts _ hlink) (hts _ hstat) (hts _ hini) (hts _ hcode) hr.1 (by rw [xcs_map]; omega) (by show k0.1 + n ≤ R.cells; have := hrc.1; omega) (by show k0.2 + 6 * n ≤ R.slots; have := hrc.2; omega) hd (hJ _ h2 H locs ls hl hP hD hS)
  · exact ho.elim
def o_copyl : xOp := fun x k _ => match x.2.2.1 with
  | .int n :: .int dp :: .ref a :: .int sp :: .ref a0 :: r => match x.2.2.2.1[a0]? with
    | some (.inl (1, (n0, .inr (.inl f)))) => match x.2.2.2.1[a]? with
      | some (.inl (1, (n1, .inr (.inl g)))) => bif Nat.ble (xcs r) 8 then ((¬ sp < 0 ∧ ¬ dp < 0 ∧ ¬ n < 0) ∧ sp.toNatClampNeg + n.toNatClampNeg ≤ n0 ∧ dp.toNatClampNeg + n.toNatClampNeg ≤ n1) ∧ k (x.1 + 3, x.2.1, r, x.2.2.2.1.set a (.inl (1, (n1, .inr (.inl (va_cpy f g sp.toNatClampNeg dp.toNatClampNeg n.toNatClampNeg))))), x.2.2.2.2) else False
      | _ => False
    | _ => False
  | _ => False
theorem s_copyl {i : Nat} (hd : decode cc pc = .ok (.invokestatic i, 3)) (hlink : Cond.methodLink own i arraycopyName ∈ Ts) (hnat : Cond.native arraycopyName ∈ Ts) (hstat : Cond.static arraycopyName ∈ Ts) (hini : Cond.initialized "java/lang/System" ∈ Ts) (hr : 1 ≤ R.frames ∧ 8 + (nativeFrameWords "java/lang/System" "arraycopy" 5 + 11) ≤ R.locals) : xSd k0 Ex cl own Ts cc nL ret R (pc, o_copyl) := by
  intro p l e s m args below meth c D cA ρ A X Q J x hpc hJ ho H locs ls hl hP hD hS
  obtain ⟨pc', L, st, h, n⟩ := x
  obtain rfl : pc' = pc := hpc
  dsimp only [o_copyl] at ho
  split at ho
  · rename_i k dp a sp a0 r
    split at ho
    · rename_i n0 f he0
      split at ho
      · rename_i n1 g he1
        obtain ⟨hxx, ho⟩ := bif_t ho
        obtain ⟨⟨⟨z1, z2, z3⟩, z4, z5⟩, z6⟩ := ho
        obtain ⟨hx, hb, hml, -, -, hown, hts, hK, -⟩ := X
        have h3 : xcs r ≤ 8 := Nat.le_of_ble_eq_true hxx
        refine va_copyl hx hb (by rw [hml]; exact hl.1.symm) hown (hts _ hlink) (hts _ hnat) (hts _ hstat) (hts _ hini) hK hP hD hS a0 a 1 1 (ty := .long) (xw_at he0) (xw_at he1) rfl rfl rfl z1 z2 z3 z4 z5 (fun _ _ => rfl) hr.1 (by rw [xcs_map]; omega) hd (fun H1 locs1 hP1 hD1 hS1 => ?_)
        have e := xw_set0 (ρ := ρ) (cA := cA) h a (.inl (1, (n1, .inr (.inl (va_cpy f g sp.toNatClampNeg dp.toNatClampNeg k.toNatClampNeg)))))
        exact hJ _ z6 H1 locs1 ls hl (by rw [← e]; exact hP1) (by rw [← e]; exact hD1) hS1
      · exact ho.elim
    · exact ho.elim
  · exact ho.elim
end XT
end
section
-- A CALL WHOSE EXCEPTIONS ARE CAUGHT BY NAME: the rows of the exception table are searched, their class constants linked or not
section XH
variable {Q : Handler → Pre} {E : CtlPost} {e : Env} {d : Bool} {acts : List Action} {s : State} {f : JFrame} {a : Addr}
theorem x_goYes {x : ExceptionTableEntry} {t : List ExceptionTableEntry} {c : ClassId} {cell : Cell} (hx : covers x f.pc = true) (h0 : x.catchType ≠ 0) (hl : s.vm.ClassLinks e.platform f.method.cls x.catchType c) (hcell : s.heap[a]? = some cell) (hobj : ∀ k, cell.vm ≠ .statics k)
    (hk : ∃ k, s.vm.classes[cell.cls]? = some k) (hc : ∃ k, s.vm.classes[c]? = some k) (hfit : s.vm.assignable cell.cls c = true) :
    wp (findHandler.go f a (x :: t)) Q E e d acts s ↔ Q (.found x.handlerPc) d acts (s.setVm (s.vm.noted f.method.cls x.catchType (.cls c))) := by
  simp only [covers] at hx
  obtain ⟨ha, ht⟩ := (resolveClass_links e.toSetting hl).op (op := VmOp.resolveClass f.method.cls x.catchType) rfl
  have hal : s.vm.Alike (s.vm.noted f.method.cls x.catchType (.cls c)) := (Vm.Alike.refl s.vm).noted _ _ _
  obtain ⟨k1, hk1⟩ := hk
  obtain ⟨k2, hk2⟩ := hc
  obtain ⟨k1', hk1', -⟩ := hal.2.2 _ _ hk1
  obtain ⟨k2', hk2', -⟩ := hal.2.2 _ _ hk2
  have hfit' : (s.vm.noted f.method.cls x.catchType (.cls c)).assignable cell.cls c = true := by rw [hal.assignable]; exact hfit
  simp [findHandler.go, hx, h0, ha, ht, hcell, hobj, hk1', hk2', hfit', VmOp.dirties, VmOp.acts]
theorem x_goNo {x : ExceptionTableEntry} {t : List ExceptionTableEntry} {c : ClassId} {cell : Cell} (hx : covers x f.pc = true) (h0 : x.catchType ≠ 0) (hl : s.vm.ClassLinks e.platform f.method.cls x.catchType c) (hcell : s.heap[a]? = some cell) (hobj : ∀ k, cell.vm ≠ .statics k)
    (hk : ∃ k, s.vm.classes[cell.cls]? = some k) (hc : ∃ k, s.vm.classes[c]? = some k) (hno : s.vm.assignable cell.cls c = false) :
    wp (findHandler.go f a (x :: t)) Q E e d acts s ↔ wp (findHandler.go f a t) Q E e d acts (s.setVm (s.vm.noted f.method.cls x.catchType (.cls c))) := by
  simp only [covers] at hx
  obtain ⟨ha, ht⟩ := (resolveClass_links e.toSetting hl).op (op := VmOp.resolveClass f.method.cls x.catchType) rfl
  have hal : s.vm.Alike (s.vm.noted f.method.cls x.catchType (.cls c)) := (Vm.Alike.refl s.vm).noted _ _ _
  obtain ⟨k1, hk1⟩ := hk
  obtain ⟨k2, hk2⟩ := hc
  obtain ⟨k1', hk1', -⟩ := hal.2.2 _ _ hk1
  obtain ⟨k2', hk2', -⟩ := hal.2.2 _ _ hk2
  have hno' : (s.vm.noted f.method.cls x.catchType (.cls c)).assignable cell.cls c = false := by rw [hal.assignable]; exact hno
  simp [findHandler.go, hx, h0, ha, ht, hcell, hobj, hk1', hk2', hno', VmOp.dirties, VmOp.acts]
end XH
/-- what the search gives and the tables that it leaves -/
def xFinds (e : Env) (s : State) (f : JFrame) (a : Addr) (hp : Nat) (vm' : Vm) : Prop := ∀ (Q : Handler → Pre) (E : CtlPost) (d : Bool) (acts : List Action), wp (findHandler f a) Q E e d acts s ↔ Q (.found hp) d acts (s.setVm vm')
theorem x_search {e : Env} {s₀ : State} {f : JFrame} {a : Addr} {cell : Cell} (hobj : ∀ k, cell.vm ≠ .statics k) (hk0 : ∃ k, s₀.vm.classes[cell.cls]? = some k) (x : ExceptionTableEntry) (rest : List ExceptionTableEntry) (hx : covers x f.pc = true) (h0 : x.catchType ≠ 0)
    {c : ClassId} (hl : s₀.vm.ClassLinks e.platform f.method.cls x.catchType c) (hfit : s₀.vm.assignable cell.cls c = true) :
    ∀ (pre : List ExceptionTableEntry) (S : State), s₀.WarmedH S.vm → S.heap[a]? = some cell → (∀ y ∈ pre, covers y f.pc = true ∧ y.catchType ≠ 0 ∧ ∃ c, s₀.vm.ClassLinks e.platform f.method.cls y.catchType c ∧ s₀.vm.assignable cell.cls c = false) →
      ∃ vm', s₀.WarmedH vm' ∧ ∀ (Q : Handler → Pre) (E : CtlPost) (d : Bool) (acts : List Action), wp (findHandler.go f a (pre ++ x :: rest)) Q E e d acts S ↔ Q (.found x.handlerPc) d acts (S.setVm vm') := by
  obtain ⟨k0, hk0⟩ := hk0
  intro pre
  induction pre with
  | nil =>
    intro S hW hcell _
    obtain ⟨k0', hk0', -⟩ := hW.alike.2.2 _ _ hk0
    obtain ⟨dk, _, _, kt, hd, _, _, _, _, hkt, _, hcold⟩ := hl.here
    obtain ⟨kt', hkt', -⟩ := hW.alike.2.2 _ _ hkt
    refine ⟨_, hW.noted hd hcold (State.rightAt_cls hl), fun Q E d acts => ?_⟩
    rw [List.nil_append]
    exact x_goYes hx h0 (hW.classLinks hl) hcell hobj ⟨k0', hk0'⟩ ⟨kt', hkt'⟩ (by rw [hW.alike.assignable]; exact hfit)
  | cons y ys ih =>
    intro S hW hcell hpass
    obtain ⟨k0', hk0', -⟩ := hW.alike.2.2 _ _ hk0
    obtain ⟨hcov, hy0, c', hl', hno⟩ := hpass y (List.mem_cons_self ..)
    obtain ⟨dk, _, _, kt, hd, _, _, _, _, hkt, _, hcold⟩ := hl'.here
    obtain ⟨kt', hkt', -⟩ := hW.alike.2.2 _ _ hkt
    obtain ⟨vm', hW', hq⟩ := ih (S.setVm (S.vm.noted f.method.cls y.catchType (.cls c'))) (hW.noted hd hcold (State.rightAt_cls hl')) hcell (fun z hz => hpass z (List.mem_cons_of_mem _ hz))
    refine ⟨vm', hW', fun Q E d acts => ?_⟩
    rw [List.cons_append, x_goNo hcov hy0 (hW.classLinks hl') hcell hobj ⟨k0', hk0'⟩ ⟨kt', hkt'⟩ (by rw [hW.alike.assignable]; exact hno)]
    exact hq Q E d acts
theorem x_catchStep {e : Env} {s : State} {a : Addr} {f : JFrame} {r : List Frame} {pc : Nat} {vm' : Vm} (hfind : xFinds e s f a pc vm') :
    (stepThrowing e s a (.java f :: r)).Is ((s.setVm vm').setFrames (.java { f with pc := pc, stack := [.ref a] } :: r)) [] := by
  simp only [stepThrowing, searchFrame, vmDo]
  generalize hr : Sem.go _ e false [] s = res
  obtain ⟨as, rfl, ha⟩ := Sem.eq_ok_of hr (a := Handler.found pc) (s' := s.setVm vm') (acts' := []) (by simp [hfind _ _ _ _])
  exact ⟨rfl, ha⟩
theorem x_caught {tb : Tables} {e : Env} {s target : State} {g : JFrame} {c : Code} {below : List Frame} {a : Addr} (h : At s g.method c below) {pc : Nat} {vm' : Vm}
    (hfind : xFinds e ((s.setTop g).pushFrame (.throwing a)) g a pc vm') (hrest : Steps tb e below ((s.setVm vm').setTop { g with pc := pc, stack := [.ref a] }) target) :
    Steps tb e below ((s.setTop g).pushFrame (.throwing a)) target := by
  obtain ⟨hgo, hw⟩ := h.throwing a
  refine Steps.head hgo hw ?_
  rw [stepThread_throwing (frames_entered h.top _), (x_catchStep (s := (s.setTop g).pushFrame (.throwing a)) hfind).1]
  obtain ⟨g₀, hg⟩ := Option.isSome_iff_exists.mp h.top
  obtain ⟨r, hr⟩ := State.topJava?_eq_some.mp hg
  have hr' : (s.setVm vm').frames = .java g₀ :: r := hr
  have hsf : ∀ (u : State) (F G : List Frame), ((u.setFrames F).setVm vm').setFrames G = (u.setVm vm').setFrames G := fun u F G => by
    have h1 : (u.setFrames F).setVm vm' = (u.setVm vm').setFrames F := rfl
    rw [h1, State.setFrames_setFrames]
  rw [State.setTop_of_frames _ hr'] at hrest
  rw [hr, List.tail_cons, State.pushFrame, hsf, State.setTop_of_frames _ hr, hsf]
  exact hrest
/-- the method's own table of handlers -/
def xEh (hh : List (Nat × Nat × Nat × Nat)) : Code → State → (Nat → Nat) → (Nat → Prop) → Prop := fun c _ _ _ => c.exceptionTable.toList.map (fun h => (h.startPc, h.endPc, h.handlerPc, h.catchType)) = hh
/-- what catches the exception Z at pc: an entry behind entries of other classes; its handler stores the exception, and answers a number -/
def xHand (own : String) (Ts : List Cond) (cc : ByteArray) (nL pc : Nat) (hh : List (Nat × Nat × Nat × Nat)) (Z : Nat) (v : Int32) : Prop :=
  ∃ (pre : List (Nat × Nat × Nat × Nat)) (q : Nat × Nat × Nat × Nat) (rest : List (Nat × Nat × Nat × Nat)), hh = pre ++ q :: rest ∧ (q.1 ≤ pc ∧ pc < q.2.1) ∧ q.2.2.2 ≠ 0 ∧ Cond.classLink own q.2.2.2 (xEx Z) ∈ Ts ∧ Cond.castable (xEx Z) (xEx Z) ∈ Ts ∧
    (∀ y ∈ pre, (y.1 ≤ pc ∧ pc < y.2.1) ∧ y.2.2.2 ≠ 0 ∧ ∃ Z', Cond.classLink own y.2.2.2 (xEx Z') ∈ Ts ∧ Cond.not (.castable (xEx Z) (xEx Z')) ∈ xNC) ∧
    ∃ z : Int, Int32.ofInt z = v ∧ ((∃ i, i < nL ∧ decode cc q.2.2.1 = .ok (.astore i, 2) ∧ decode cc (q.2.2.1 + 2) = .ok (.iconst z, 1) ∧ decode cc (q.2.2.1 + 3) = .ok (.ireturn, 1)) ∨
      ∃ i : Fin 4, i.val < nL ∧ decode cc q.2.2.1 = .ok (.astore_n i, 1) ∧ decode cc (q.2.2.1 + 1) = .ok (.iconst z, 1) ∧ decode cc (q.2.2.1 + 2) = .ok (.ireturn, 1))
def o_callH (F : xP) (ci np rc rk : Nat) (hs : Nat → Option Int32) : xOp := fun x k Q => match (x.2.2.1.drop np) with
  | .ref a :: _ => match x.2.2.2.1[a]? with
    | some (.inr (cj, _)) => bif Nat.beq cj ci && (Nat.ble (np + 1) x.2.2.1.length && (Nat.ble (xcs (x.2.2.1.drop (np + 1))) 8 && Nat.ble (x.2.2.2.2 + rk) rc)) then
      F (x.2.2.1.take (np + 1)).reverse x.2.2.2.1 (fun r h' n' => match r with
        | .inl none => k (x.1 + 3, x.2.1, x.2.2.1.drop (np + 1), h', x.2.2.2.2 + n')
        | .inl (some v) => k (x.1 + 3, x.2.1, v :: x.2.2.1.drop (np + 1), h', x.2.2.2.2 + n')
        | .inr Z => match hs Z with
          | some v => Q (.inl (some (.int v))) h' (x.2.2.2.2 + n')
          | none => False) else False
    | _ => False
  | _ => False
section XI
variable {k0 : Nat × Nat} {cl : List vw_C} {p : Program} {l : Launch} {e : Env} {R : Room} {s : State} {m : MethodId} {args : Array Value} {below : List Frame} {meth : Method} {c : Code} {T : State} {locs : List Loc} {own : String} {Ts : List Cond} {cc : ByteArray} {nL : Nat} {D : va_G} {cA : Nat → ClassId} {ρ : Nat → Nat} {A : Nat → Prop} {hh : List (Nat × Nat × Nat × Nat)}
/-- from the throw to the handler's answer -/
theorem x_hand (hX : xCx (xEh hh) cl own Ts cc nL (some .int) p l s m args meth c D cA ρ A) {Q : xQ} {pc n : Nat} {h : xH} {ls : Array Slot} {L : List (Nat × Value)} {rest : List Value} {Z : Nat} {v : Int32} (X : Stand p l e R s m args below meth c T locs (k0.1 + n) (k0.2 + 6 * n))
    (hl : lv_has ls nL L) (hP : va_P D cl (xw ρ cA 0 h) T.heap) (hD : va_D A (xw ρ cA 0 h)) (hS : va_S A s.heap T.heap locs) {a : Addr} {cell : Cell} (ha : T.heap[a]? = some cell) (hv : ∀ k, cell.vm ≠ .statics k) (hc1 : s.vm.findClass (xEx Z) = some cell.cls) (hc2 : ∃ k, s.vm.classes[cell.cls]? = some k)
    (hH : xHand own Ts cc nL pc hh Z v) (hQ : Q (.inl (some (.int v))) h n) : ∃ t, Steps p.tables e below ((T.setTop (F0 m pc ls rest)).pushFrame (.throwing a)) t ∧ xMQ k0 cl D cA ρ A Q s below t := by
  obtain ⟨hx, hb, hml, hr, hlk, hown, hts, hK, hA, hex, hlo0, hns, hHs⟩ := hX
  obtain ⟨pre, q, rs, e1, hcov, hq0, hlink, hcast, hpre, z, hz, hdec⟩ := hH
  have hpl : e.platform.magicAccessors = ({} : Platform).magicAccessors := by rw [X.admits.platform]
  have e2 : c.exceptionTable.toList.map (fun h => (h.startPc, h.endPc, h.handlerPc, h.catchType)) = pre ++ q :: rs := hex.trans e1
  obtain ⟨l1, l2, e3, e4, e5⟩ := List.map_eq_append_iff.mp e2
  obtain ⟨x, l3, e6, e7, e8⟩ := List.map_eq_cons_iff.mp e5
  subst e6
  have hx1 : x.startPc = q.1 := by rw [← e7]
  have hx2 : x.endPc = q.2.1 := by rw [← e7]
  have hx3 : x.handlerPc = q.2.2.1 := by rw [← e7]
  have hx4 : x.catchType = q.2.2.2 := by rw [← e7]
  obtain ⟨cT, hcT, hclT⟩ := Cond.classLink_spec hown (by rw [hx4]; exact hts _ hlink : (Cond.classLink own x.catchType (xEx Z)).before args s = true) e.platform hpl
  have ecT : cT = cell.cls := Option.some.inj (hcT.symm.trans hc1)
  subst ecT
  obtain ⟨c3, c4, hc3, hc4, hasg⟩ := Cond.castable_spec (hts _ hcast)
  have ec3 : c3 = cell.cls := Option.some.inj (hc3.symm.trans hc1)
  have ec4 : c4 = cell.cls := Option.some.inj (hc4.symm.trans hc1)
  subst ec3
  rw [ec4] at hasg
  have hcov' : covers x (F0 m pc ls rest).pc = true := by simp [covers, hx1, hx2, hcov]
  obtain ⟨vm', hW', hfind⟩ := x_search (e := e) (s₀ := s) (f := F0 m pc ls rest) (a := a) (cell := cell) hv hc2 x l3 hcov' (by rw [hx4]; exact hq0) (c := cell.cls) hclT hasg l1 ((T.setTop (F0 m pc ls rest)).pushFrame (.throwing a)) X.warmed ha (fun y hy => by
    have hm : (y.startPc, y.endPc, y.handlerPc, y.catchType) ∈ pre := by rw [← e4]; exact List.mem_map_of_mem hy
    obtain ⟨w1, w2, Z', w3, w4⟩ := hpre _ hm
    obtain ⟨c', hc', hcl'⟩ := Cond.classLink_spec hown (hts _ w3) e.platform hpl
    refine ⟨by simp [covers, w1], w2, c', hcl', ?_⟩
    have hno := hHs.1 _ w4
    have hvv := Cond.holds_not_iff.mp hno
    simp only [Cond.value, hc1, hc'] at hvv
    exact Option.some.inj hvv)
  have hF : xFinds e ((T.setTop (F0 m pc ls rest)).pushFrame (.throwing a)) (F0 m pc ls rest) a q.2.2.1 vm' := fun Q E d acts => by
    rw [W.findHandler_eq (meth := meth) (code := c) X.method' X.code, e3, hfind Q E d acts, hx3]
  have X2 := X.noted hW'
  have key : W p l e R s m args below meth c T.heap locs (k0.1 + n) (k0.2 + 6 * n) (xMQ k0 cl D cA ρ A Q s below) (F0 m q.2.2.1 ls [.ref a]) := by
    rcases hdec with ⟨i, hi, d1, d2, d3⟩ | ⟨i, hi, d1, d2, d3⟩
    · refine lv_astore hx hb d1 hl hi rfl (fun ls' _ => ?_)
      refine lv_iconst hx hb d2 hz ?_
      exact W.mono (W.iret (v := v) (free := A) hx hb hr (fun t ht hW => ⟨rfl, ht, hW⟩) hS.2.2 d3 hlk) (fun t ht => xret (v := some (.int v)) hQ hP hD hS ht)
    · refine lv_astore_n hx hb d1 rfl hl hi rfl (fun ls' _ => ?_)
      refine lv_iconst hx hb d2 hz ?_
      exact W.mono (W.iret (v := v) (free := A) hx hb hr (fun t ht hW => ⟨rfl, ht, hW⟩) hS.2.2 d3 hlk) (fun t ht => xret (v := some (.int v)) hQ hP hD hS ht)
  obtain ⟨t, a1, b1⟩ := key (T.setVm vm') rfl X2
  exact ⟨t, x_caught (g := F0 m pc ls rest) X.here hF a1, b1⟩
end XI
section XJ
variable {k0 : Nat × Nat} {cl : List vw_C} {own : String} {Ts : List Cond} {cc : ByteArray} {nL : Nat} {R : Room} {pc : Nat} {hh : List (Nat × Nat × Nat × Nat)}
theorem s_callH {F : xP} {ci np rc rk i : Nat} {hs : Nat → Option Int32} {C : String} {T0 : u_T} {N : Nat} {y : MethodName} {ws ws' : List Cond} {rm : Room} {bytes : ByteArray} {maxL : Nat} {rt : Option FieldType} (hM : xMet cl y ws rm F) (hd : decode cc pc = .ok (.invokevirtual i, 3)) (hw : ws = Cond.code y bytes maxL rt :: ws') (hG : xGood Ts ws) (hc : cl[ci]? = some (C, T0, N))
    (hlink : Cond.methodLink own i y ∈ Ts) (hinst : Cond.instanceMethod y ∈ Ts) (hsel : Cond.selects C y y ∈ Ts) (hini : Cond.initialized y.cls ∈ Ts) (hy : y.cls ≠ "java/lang/invoke/MethodHandle" ∧ y.cls ≠ "java/lang/invoke/VarHandle" ∧ (parseMethodDescriptor y.desc).map (fun d => d.parameters.length) = some np)
    (hrc : k0.1 + rc ≤ R.cells ∧ k0.2 + 6 * rc ≤ R.slots ∧ rm.cells = rk ∧ rm.slots = 6 * rk ∧ rm.frames + 1 ≤ R.frames ∧ 8 + (maxL + 11) + rm.locals ≤ R.locals) (hH : ∀ Z v, hs Z = some v → xHand own Ts cc nL pc hh Z v) : xSd k0 (xEh hh) cl own Ts cc nL (some .int) R (pc, o_callH F ci np rc rk hs) := by
  intro p l e s m args below meth c D cA ρ A X Q J x hpc hJ ho H locs ls hl hP hD hS
  obtain ⟨pc', L, st, h, n⟩ := x
  obtain rfl : pc' = pc := hpc
  dsimp only [o_callH] at ho
  split at ho
  · rename_i a r0 hdr
    split at ho
    · rename_i cj fs he
      obtain ⟨h00, ho1⟩ := bif_t ho
      clear ho
      rw [Bool.and_eq_true, Bool.and_eq_true, Bool.and_eq_true] at h00
      obtain ⟨hcc, h0⟩ := h00
      obtain rfl : cj = ci := Nat.eq_of_beq_eq_true hcc
      have ho := ho1
      clear ho1
      have hdr1 : st.drop (np + 1) = r0 := by
        rw [← List.drop_drop, hdr]; rfl
      have hlt : np < st.length := Nat.le_of_ble_eq_true h0.1
      have hlen : (st.take np).length = np := by rw [List.length_take]; omega
      have htk : (st.take (np + 1)).reverse = .ref a :: (st.take np).reverse := by
        have e1 : st = st.take np ++ .ref a :: r0 := by rw [← hdr, List.take_append_drop]
        have e2 : st.take (np + 1) = st.take np ++ [.ref a] := by
          conv => lhs; rw [e1]
          rw [List.take_append, List.take_of_length_le (by omega), hlen]
          simp
        rw [e2]; simp
      intro T hT S
      subst hT
      have hts := X.2.2.2.2.2.2.1
      have hcw : Cond.code y bytes maxL rt ∈ ws := by rw [hw]; exact List.mem_cons_self
      have hcode := hts _ (hG _ hcw).1
      obtain ⟨mk, methM, hnamed, hmethM, hstM, habM⟩ := Cond.instanceMethod_spec (hts _ hinst)
      obtain ⟨methM', cM, hmethM', hcM, -, hlM, -, -, -, hsigM⟩ := Cond.code_spec hnamed hcode
      cases hmethM.symm.trans hmethM'
      obtain ⟨c2, r2, m2, q1, q2, q3, q4, kP, hkP, hkPi⟩ := Cond.selects_spec (hts _ hsel)
      obtain ⟨cell, hcell, hclB, hoB⟩ : ∃ cell : Cell, T.heap[ρ a]? = some cell ∧ s.vm.findClass C = some cell.cls ∧ cell.vm.isStatics = false := by
        obtain ⟨r, h1, cell, w1, w2, w3, w4⟩ := hP a _ (xw_at he)
        have hr : r = (C, T0, N) := Option.some.inj (h1.symm.trans hc)
        subst hr
        have hk1 := (X.2.2.2.2.2.2.2.1).1 _ _ hc
        exact ⟨cell, w1, by rw [w2]; exact hk1.2.1, by rw [w3]; rfl⟩
      cases hclB.symm.trans q1
      cases (State.methodFound?_of_named hnamed ⟨hy.1, hy.2.1⟩).symm.trans q2
      cases hnamed.symm.trans q3
      have hselP : selectMethod e.platform s.vm cell.cls mk = .method mk := by rw [Launch.admits_selectMethod S.admits]; exact q4
      have hpl : ((st.take np).reverse.map (xv ρ)).length = methM.sig.parameters.length := by
        have h2 := hy.2.2
        rw [hsigM] at h2
        rw [List.length_map, List.length_reverse, hlen]
        exact (Option.some.inj h2).symm
      obtain ⟨vm₁, X₁, hstep₁⟩ := S.invokevirtual X.1 X.2.2.2.2.2.1 (hts _ hlink) hnamed hmethM hstM hkP hkPi ⟨hy.1, hy.2.1⟩ (a := ρ a) (cell := cell) hcell (fun z q => by rw [q] at hoB; cases hoB) hselP hmethM habM hkP hkPi (g := F0 m pc' ls (st.map (xv ρ))) rfl (argsL := (st.take np).reverse.map (xv ρ)) (rest := (st.drop (np + 1)).map (xv ρ)) hpl (by
        show st.map (xv ρ) = _
        rw [← List.map_reverse, List.reverse_reverse, hdr1]
        conv => lhs; rw [← List.take_append_drop np st, hdr]
        rw [List.map_append]; rfl) (by rw [X.2.1]; exact hd)
      rw [htk] at ho
      obtain ⟨t, a1, b1⟩ := x_callG (PT := fun Z h' n' => match hs Z with | some v => Q (.inl (some (.int v))) h' (n + n') | none => False) (T := T.setVm vm₁) X hJ (pc := pc') (ls := ls) (rest := st.drop (np + 1)) (vs := .ref a :: (st.take np).reverse) X₁ hl hP hD hS hd (X₁.named hnamed) hM ⟨methM, cM, by rw [X₁.warmed.alike.method?]; exact hmethM, hcM, hlM⟩ hG hini hrc.1 hrc.2.1 hrc.2.2.1 hrc.2.2.2.1 hrc.2.2.2.2.1 hrc.2.2.2.2.2 (Nat.le_of_ble_eq_true h0.2.1) (Nat.le_of_ble_eq_true h0.2.2) ho (fun Z h' n' T' locs' a cell hq X' hP' hD' hS' ha hv hc1 hc2 => by
        cases hz : hs Z with
        | none => rw [hz] at hq; exact hq.elim
        | some v => rw [hz] at hq; exact x_hand X X' hl hP' hD' hS' ha hv hc1 hc2 (hH Z v hz) hq)
      exact ⟨t, hstep₁ _ fun acts => by rw [doInvoke_state]; exact a1, b1⟩
    · exact ho.elim
  · exact ho.elim
end XJ
theorem xMet.ofW {cl : List vw_C} {y : MethodName} {ws ws' : List Cond} {rm : Room} {cc : ByteArray} {nL : Nat} {ret : Option FieldType} {hh : List (Nat × Nat × Nat × Nat)} {tb : xT} (hy : plainName y.cls = true) (hw : ws = Cond.codeWith y cc nL ret hh :: ws') (hv : ∀ q ∈ tb, xSd (0, 0) (xEh hh) cl y.cls ws cc nL ret rm q) : xMet cl y ws rm (xRun tb nL) := by
  intro l D cA ρ vs h Q sz hlo hF
  refine MetFree.of_bodyS (code := cc) (maxLocals := nL) (ret := ret) hy ?_ ?_
  · intro args s m hh2 hn
    obtain ⟨m', meth, c, h0, h1, h2, h3, h4, -, h5, h6, -⟩ := Cond.codeWith_spec (atoms_spec (ws := ws) hh2 _ (by rw [hw]; exact List.mem_cons_self))
    have : m' = m := Option.some.inj (h0.symm.trans hn)
    subst this
    exact ⟨meth, c, h1, h2, h3, h4, h5, h6⟩
  · intro p e s m args below meth c s₁ B hml hP _
    obtain ⟨rfl, hsz, hP, hK, hD0, hHs⟩ := hP
    subst hsz
    have hh0 : s₁.heap = s.heap := by rw [B.state]; rfl
    have hts := atoms_spec (ws := ws) B.pre
    have hcw : Cond.codeWith y cc nL ret hh ∈ ws := by rw [hw]; exact List.mem_cons_self
    obtain ⟨m', meth', c', h0, h1, h2, -, -, h5, -, -, -⟩ := Cond.codeWith_spec (hts _ hcw)
    have e0 : m' = m := Option.some.inj (h0.symm.trans B.named)
    subst e0
    cases B.method.symm.trans h1
    cases (Stand.of_body B).code.symm.trans h2
    have hX : xCx (xEh hh) cl y.cls ws cc nL ret p l s m' (vs.map (xv ρ)).toArray meth c D cA ρ (xA ρ h.length s.heap.size) :=
      ⟨B.exec, B.bytes, hml, B.returns, B.notSynchronized, findClass_of_methodNamed B.named, hts, hK, fun q hq => Or.inr hq, h5, hlo, x_ns hP, hHs⟩
    have hl := lv_entry (vs.map (xv ρ)) (n := nL) (by rw [xen_len]; exact hF.1)
    have hk := xSd.all (l := l) (e := e) (below := below) (ρ := ρ) hv hX hF.2 s.heap [] _ (by rw [xen_la]; exact hl) hP (xD_A hD0) va_S.rf
    obtain ⟨t, a1, o, b1, b2, b3⟩ := hk s₁ hh0 (Stand.of_body B)
    exact ⟨t, o, by rw [lg_entry_eq]; exact a1, b1, b2, b3⟩
end
section
-- ===== PART A: goes FIRST, ahead of the names: the tables' words, and 'selects' of the private methods out of them =====
/-- a private method of a class that the tables say can be made, by its rows of tables_1 -/
def lw_okq (q : MethodName × Nat) : Prop := (q.1.cls ≠ "java/lang/invoke/MethodHandle" ∧ q.1.cls ≠ "java/lang/invoke/VarHandle") ∧ Cond.instantiable q.1.cls q.2 ∈ tables_1 ∧ Cond.privateMethod q.1 ∈ tables_1 ∧ Cond.instanceMethod q.1 ∈ tables_1
theorem lw_p0 : lw_okq (⟨"java/lang/Throwable", "fillInStackTrace", "(I)Ljava/lang/Throwable;"⟩, 6) := ⟨⟨by decide +kernel, by decide +kernel⟩, List.mem_of_getElem? (i := 319) (by decide +kernel), List.mem_of_getElem? (i := 317) (by decide +kernel), List.mem_of_getElem? (i := 318) (by decide +kernel)⟩
theorem lw_p1 : lw_okq (⟨"NameMover", "requireClass", "(I)V"⟩, 6) := ⟨⟨by decide +kernel, by decide +kernel⟩, List.mem_of_getElem? (i := 20) (by decide +kernel), List.mem_of_getElem? (i := 410) (by decide +kernel), List.mem_of_getElem? (i := 411) (by decide +kernel)⟩
theorem lw_p2 : lw_okq (⟨"NameMover$Store", "goesWithPackage", "(IJ)Z"⟩, 11) := ⟨⟨by decide +kernel, by decide +kernel⟩, List.mem_of_getElem? (i := 28) (by decide +kernel), List.mem_of_getElem? (i := 474) (by decide +kernel), List.mem_of_getElem? (i := 475) (by decide +kernel)⟩
theorem lw_p3 : lw_okq (⟨"NameMover", "requireMember", "(II)V"⟩, 6) := ⟨⟨by decide +kernel, by decide +kernel⟩, List.mem_of_getElem? (i := 20) (by decide +kernel), List.mem_of_getElem? (i := 500) (by decide +kernel), List.mem_of_getElem? (i := 501) (by decide +kernel)⟩
theorem lw_p4 : lw_okq (⟨"NameMover$Store", "inOneFamily", "(II)Z"⟩, 11) := ⟨⟨by decide +kernel, by decide +kernel⟩, List.mem_of_getElem? (i := 28) (by decide +kernel), List.mem_of_getElem? (i := 512) (by decide +kernel), List.mem_of_getElem? (i := 513) (by decide +kernel)⟩
theorem lw_p5 : lw_okq (⟨"NameMover$Store", "canOverride", "(I)Z"⟩, 11) := ⟨⟨by decide +kernel, by decide +kernel⟩, List.mem_of_getElem? (i := 28) (by decide +kernel), List.mem_of_getElem? (i := 516) (by decide +kernel), List.mem_of_getElem? (i := 517) (by decide +kernel)⟩
theorem lw_p6 : lw_okq (⟨"NameMover$Store", "familyTop", "(I)I"⟩, 11) := ⟨⟨by decide +kernel, by decide +kernel⟩, List.mem_of_getElem? (i := 28) (by decide +kernel), List.mem_of_getElem? (i := 521) (by decide +kernel), List.mem_of_getElem? (i := 522) (by decide +kernel)⟩
theorem lw_p7 : lw_okq (⟨"NameMover$ClassWriter", "begin", "()V"⟩, 6) := ⟨⟨by decide +kernel, by decide +kernel⟩, List.mem_of_getElem? (i := 104) (by decide +kernel), List.mem_of_getElem? (i := 590) (by decide +kernel), List.mem_of_getElem? (i := 591) (by decide +kernel)⟩
theorem lw_p8 : lw_okq (⟨"NameMover$ClassWriter", "useText", "(J)V"⟩, 6) := ⟨⟨by decide +kernel, by decide +kernel⟩, List.mem_of_getElem? (i := 104) (by decide +kernel), List.mem_of_getElem? (i := 608) (by decide +kernel), List.mem_of_getElem? (i := 609) (by decide +kernel)⟩
theorem lw_p9 : lw_okq (⟨"NameMover$ClassWriter", "openText", "()V"⟩, 6) := ⟨⟨by decide +kernel, by decide +kernel⟩, List.mem_of_getElem? (i := 104) (by decide +kernel), List.mem_of_getElem? (i := 612) (by decide +kernel), List.mem_of_getElem? (i := 613) (by decide +kernel)⟩
theorem lw_p10 : lw_okq (⟨"NameMover$ClassWriter", "appendText", "(J)V"⟩, 6) := ⟨⟨by decide +kernel, by decide +kernel⟩, List.mem_of_getElem? (i := 104) (by decide +kernel), List.mem_of_getElem? (i := 620) (by decide +kernel), List.mem_of_getElem? (i := 621) (by decide +kernel)⟩
theorem lw_p11 : lw_okq (⟨"NameMover$ClassWriter", "closeText", "()V"⟩, 6) := ⟨⟨by decide +kernel, by decide +kernel⟩, List.mem_of_getElem? (i := 104) (by decide +kernel), List.mem_of_getElem? (i := 626) (by decide +kernel), List.mem_of_getElem? (i := 627) (by decide +kernel)⟩
theorem lw_p12 : lw_okq (⟨"NameMover$ClassWriter", "useNumber", "(I)V"⟩, 6) := ⟨⟨by decide +kernel, by decide +kernel⟩, List.mem_of_getElem? (i := 104) (by decide +kernel), List.mem_of_getElem? (i := 646) (by decide +kernel), List.mem_of_getElem? (i := 647) (by decide +kernel)⟩
theorem lw_p13 : lw_okq (⟨"NameMover$ClassWriter", "useDescriptor", "(J)V"⟩, 6) := ⟨⟨by decide +kernel, by decide +kernel⟩, List.mem_of_getElem? (i := 104) (by decide +kernel), List.mem_of_getElem? (i := 651) (by decide +kernel), List.mem_of_getElem? (i := 652) (by decide +kernel)⟩
theorem lw_p14 : lw_okq (⟨"NameMover$ClassWriter", "end", "()V"⟩, 6) := ⟨⟨by decide +kernel, by decide +kernel⟩, List.mem_of_getElem? (i := 104) (by decide +kernel), List.mem_of_getElem? (i := 656) (by decide +kernel), List.mem_of_getElem? (i := 657) (by decide +kernel)⟩
theorem lw_p15 : lw_okq (⟨"NameMover", "requireByte", "(I)V"⟩, 6) := ⟨⟨by decide +kernel, by decide +kernel⟩, List.mem_of_getElem? (i := 20) (by decide +kernel), List.mem_of_getElem? (i := 668) (by decide +kernel), List.mem_of_getElem? (i := 669) (by decide +kernel)⟩
def lw_privs_1 : List (MethodName × Nat) := [(⟨"java/lang/Throwable", "fillInStackTrace", "(I)Ljava/lang/Throwable;"⟩, 6), (⟨"NameMover", "requireClass", "(I)V"⟩, 6), (⟨"NameMover$Store", "goesWithPackage", "(IJ)Z"⟩, 11), (⟨"NameMover", "requireMember", "(II)V"⟩, 6), (⟨"NameMover$Store", "inOneFamily", "(II)Z"⟩, 11), (⟨"NameMover$Store", "canOverride", "(I)Z"⟩, 11), (⟨"NameMover$Store", "familyTop", "(I)I"⟩, 11), (⟨"NameMover$ClassWriter", "begin", "()V"⟩, 6), (⟨"NameMover$ClassWriter", "useText", "(J)V"⟩, 6), (⟨"NameMover$ClassWriter", "openText", "()V"⟩, 6), (⟨"NameMover$ClassWriter", "appendText", "(J)V"⟩, 6), (⟨"NameMover$ClassWriter", "closeText", "()V"⟩, 6), (⟨"NameMover$ClassWriter", "useNumber", "(I)V"⟩, 6), (⟨"NameMover$ClassWriter", "useDescriptor", "(J)V"⟩, 6), (⟨"NameMover$ClassWriter", "end", "()V"⟩, 6), (⟨"NameMover", "requireByte", "(I)V"⟩, 6)]
theorem lw_r1 : ∀ q ∈ lw_privs_1, lw_okq q := List.forall_mem_cons.mpr ⟨lw_p0, List.forall_mem_cons.mpr ⟨lw_p1, List.forall_mem_cons.mpr ⟨lw_p2, List.forall_mem_cons.mpr ⟨lw_p3, List.forall_mem_cons.mpr ⟨lw_p4, List.forall_mem_cons.mpr ⟨lw_p5, List.forall_mem_cons.mpr ⟨lw_p6, List.forall_mem_cons.mpr ⟨lw_p7, List.forall_mem_cons.mpr ⟨lw_p8, List.forall_mem_cons.mpr ⟨lw_p9, List.forall_mem_cons.mpr ⟨lw_p10, List.forall_mem_cons.mpr ⟨lw_p11, List.forall_mem_cons.mpr ⟨lw_p12, List.forall_mem_cons.mpr ⟨lw_p13, List.forall_mem_cons.mpr ⟨lw_p14, List.forall_mem_cons.mpr ⟨lw_p15, fun _ h => absurd h List.not_mem_nil⟩⟩⟩⟩⟩⟩⟩⟩⟩⟩⟩⟩⟩⟩⟩⟩
theorem lw_p16 : lw_okq (⟨"NameMover$ClassReader", "skipPool", "()Z"⟩, 5) := ⟨⟨by decide +kernel, by decide +kernel⟩, List.mem_of_getElem? (i := 129) (by decide +kernel), List.mem_of_getElem? (i := 696) (by decide +kernel), List.mem_of_getElem? (i := 697) (by decide +kernel)⟩
theorem lw_p17 : lw_okq (⟨"NameMover$ClassReader", "nextText", "()I"⟩, 5) := ⟨⟨by decide +kernel, by decide +kernel⟩, List.mem_of_getElem? (i := 129) (by decide +kernel), List.mem_of_getElem? (i := 702) (by decide +kernel), List.mem_of_getElem? (i := 703) (by decide +kernel)⟩
theorem lw_p18 : lw_okq (⟨"NameMover$ClassReader", "nextByte", "()I"⟩, 5) := ⟨⟨by decide +kernel, by decide +kernel⟩, List.mem_of_getElem? (i := 129) (by decide +kernel), List.mem_of_getElem? (i := 706) (by decide +kernel), List.mem_of_getElem? (i := 707) (by decide +kernel)⟩
theorem lw_p19 : lw_okq (⟨"NameMover$ClassReader", "shortText", "(I)J"⟩, 5) := ⟨⟨by decide +kernel, by decide +kernel⟩, List.mem_of_getElem? (i := 129) (by decide +kernel), List.mem_of_getElem? (i := 710) (by decide +kernel), List.mem_of_getElem? (i := 711) (by decide +kernel)⟩
theorem lw_p20 : lw_okq (⟨"NameMover$ClassReader", "textLength", "(I)I"⟩, 5) := ⟨⟨by decide +kernel, by decide +kernel⟩, List.mem_of_getElem? (i := 129) (by decide +kernel), List.mem_of_getElem? (i := 714) (by decide +kernel), List.mem_of_getElem? (i := 715) (by decide +kernel)⟩
theorem lw_p21 : lw_okq (⟨"NameMover$ClassReader", "shortText", "(III)J"⟩, 5) := ⟨⟨by decide +kernel, by decide +kernel⟩, List.mem_of_getElem? (i := 129) (by decide +kernel), List.mem_of_getElem? (i := 718) (by decide +kernel), List.mem_of_getElem? (i := 719) (by decide +kernel)⟩
theorem lw_p22 : lw_okq (⟨"NameMover$ClassReader", "textChar", "(II)I"⟩, 5) := ⟨⟨by decide +kernel, by decide +kernel⟩, List.mem_of_getElem? (i := 129) (by decide +kernel), List.mem_of_getElem? (i := 722) (by decide +kernel), List.mem_of_getElem? (i := 723) (by decide +kernel)⟩
theorem lw_p23 : lw_okq (⟨"NameMover$ClassReader", "nextSuperclass", "()I"⟩, 5) := ⟨⟨by decide +kernel, by decide +kernel⟩, List.mem_of_getElem? (i := 129) (by decide +kernel), List.mem_of_getElem? (i := 729) (by decide +kernel), List.mem_of_getElem? (i := 730) (by decide +kernel)⟩
theorem lw_p24 : lw_okq (⟨"NameMover$ClassReader", "placeMember", "()Z"⟩, 5) := ⟨⟨by decide +kernel, by decide +kernel⟩, List.mem_of_getElem? (i := 129) (by decide +kernel), List.mem_of_getElem? (i := 734) (by decide +kernel), List.mem_of_getElem? (i := 735) (by decide +kernel)⟩
theorem lw_p25 : lw_okq (⟨"NameMover$ClassReader", "compactDescriptor", "(I)J"⟩, 5) := ⟨⟨by decide +kernel, by decide +kernel⟩, List.mem_of_getElem? (i := 129) (by decide +kernel), List.mem_of_getElem? (i := 738) (by decide +kernel), List.mem_of_getElem? (i := 739) (by decide +kernel)⟩
theorem lw_p26 : lw_okq (⟨"NameMover$ClassReader", "semicolon", "(III)I"⟩, 5) := ⟨⟨by decide +kernel, by decide +kernel⟩, List.mem_of_getElem? (i := 129) (by decide +kernel), List.mem_of_getElem? (i := 742) (by decide +kernel), List.mem_of_getElem? (i := 743) (by decide +kernel)⟩
theorem lw_p27 : lw_okq (⟨"NameMover", "isFileOfPlacedClass", "()Z"⟩, 6) := ⟨⟨by decide +kernel, by decide +kernel⟩, List.mem_of_getElem? (i := 20) (by decide +kernel), List.mem_of_getElem? (i := 751) (by decide +kernel), List.mem_of_getElem? (i := 752) (by decide +kernel)⟩
theorem lw_p28 : lw_okq (⟨"NameMoverModel", "isClass", "(I)Z"⟩, 23) := ⟨⟨by decide +kernel, by decide +kernel⟩, List.mem_of_getElem? (i := 761) (by decide +kernel), List.mem_of_getElem? (i := 864) (by decide +kernel), List.mem_of_getElem? (i := 865) (by decide +kernel)⟩
theorem lw_p29 : lw_okq (⟨"NameMoverModel", "moves", "()I"⟩, 23) := ⟨⟨by decide +kernel, by decide +kernel⟩, List.mem_of_getElem? (i := 761) (by decide +kernel), List.mem_of_getElem? (i := 868) (by decide +kernel), List.mem_of_getElem? (i := 869) (by decide +kernel)⟩
theorem lw_p30 : lw_okq (⟨"NameMoverModel", "named", "(J)I"⟩, 23) := ⟨⟨by decide +kernel, by decide +kernel⟩, List.mem_of_getElem? (i := 761) (by decide +kernel), List.mem_of_getElem? (i := 872) (by decide +kernel), List.mem_of_getElem? (i := 873) (by decide +kernel)⟩
theorem lw_p31 : lw_okq (⟨"NameMoverModel", "put", "(JIZ)V"⟩, 23) := ⟨⟨by decide +kernel, by decide +kernel⟩, List.mem_of_getElem? (i := 761) (by decide +kernel), List.mem_of_getElem? (i := 876) (by decide +kernel), List.mem_of_getElem? (i := 877) (by decide +kernel)⟩
def lw_privs_2 : List (MethodName × Nat) := [(⟨"NameMover$ClassReader", "skipPool", "()Z"⟩, 5), (⟨"NameMover$ClassReader", "nextText", "()I"⟩, 5), (⟨"NameMover$ClassReader", "nextByte", "()I"⟩, 5), (⟨"NameMover$ClassReader", "shortText", "(I)J"⟩, 5), (⟨"NameMover$ClassReader", "textLength", "(I)I"⟩, 5), (⟨"NameMover$ClassReader", "shortText", "(III)J"⟩, 5), (⟨"NameMover$ClassReader", "textChar", "(II)I"⟩, 5), (⟨"NameMover$ClassReader", "nextSuperclass", "()I"⟩, 5), (⟨"NameMover$ClassReader", "placeMember", "()Z"⟩, 5), (⟨"NameMover$ClassReader", "compactDescriptor", "(I)J"⟩, 5), (⟨"NameMover$ClassReader", "semicolon", "(III)I"⟩, 5), (⟨"NameMover", "isFileOfPlacedClass", "()Z"⟩, 6), (⟨"NameMoverModel", "isClass", "(I)Z"⟩, 23), (⟨"NameMoverModel", "moves", "()I"⟩, 23), (⟨"NameMoverModel", "named", "(J)I"⟩, 23), (⟨"NameMoverModel", "put", "(JIZ)V"⟩, 23)]
theorem lw_r2 : ∀ q ∈ lw_privs_2, lw_okq q := List.forall_mem_cons.mpr ⟨lw_p16, List.forall_mem_cons.mpr ⟨lw_p17, List.forall_mem_cons.mpr ⟨lw_p18, List.forall_mem_cons.mpr ⟨lw_p19, List.forall_mem_cons.mpr ⟨lw_p20, List.forall_mem_cons.mpr ⟨lw_p21, List.forall_mem_cons.mpr ⟨lw_p22, List.forall_mem_cons.mpr ⟨lw_p23, List.forall_mem_cons.mpr ⟨lw_p24, List.forall_mem_cons.mpr ⟨lw_p25, List.forall_mem_cons.mpr ⟨lw_p26, List.forall_mem_cons.mpr ⟨lw_p27, List.forall_mem_cons.mpr ⟨lw_p28, List.forall_mem_cons.mpr ⟨lw_p29, List.forall_mem_cons.mpr ⟨lw_p30, List.forall_mem_cons.mpr ⟨lw_p31, fun _ h => absurd h List.not_mem_nil⟩⟩⟩⟩⟩⟩⟩⟩⟩⟩⟩⟩⟩⟩⟩⟩
theorem lw_p32 : lw_okq (⟨"NameMoverModel", "isDescriptor", "(JI)Z"⟩, 23) := ⟨⟨by decide +kernel, by decide +kernel⟩, List.mem_of_getElem? (i := 761) (by decide +kernel), List.mem_of_getElem? (i := 884) (by decide +kernel), List.mem_of_getElem? (i := 885) (by decide +kernel)⟩
theorem lw_p33 : lw_okq (⟨"NameMoverModel", "type", "(JI)Z"⟩, 23) := ⟨⟨by decide +kernel, by decide +kernel⟩, List.mem_of_getElem? (i := 761) (by decide +kernel), List.mem_of_getElem? (i := 888) (by decide +kernel), List.mem_of_getElem? (i := 889) (by decide +kernel)⟩
theorem lw_p34 : lw_okq (⟨"NameMoverModel", "has", "(IJJ)I"⟩, 23) := ⟨⟨by decide +kernel, by decide +kernel⟩, List.mem_of_getElem? (i := 761) (by decide +kernel), List.mem_of_getElem? (i := 892) (by decide +kernel), List.mem_of_getElem? (i := 893) (by decide +kernel)⟩
theorem lw_p35 : lw_okq (⟨"NameMoverModel", "putMember", "(IJJZ)V"⟩, 23) := ⟨⟨by decide +kernel, by decide +kernel⟩, List.mem_of_getElem? (i := 761) (by decide +kernel), List.mem_of_getElem? (i := 896) (by decide +kernel), List.mem_of_getElem? (i := 897) (by decide +kernel)⟩
theorem lw_p36 : lw_okq (⟨"NameMoverModel", "isMember", "(II)Z"⟩, 23) := ⟨⟨by decide +kernel, by decide +kernel⟩, List.mem_of_getElem? (i := 761) (by decide +kernel), List.mem_of_getElem? (i := 925) (by decide +kernel), List.mem_of_getElem? (i := 926) (by decide +kernel)⟩
theorem lw_p37 : lw_okq (⟨"NameMoverModel", "family", "(I)I"⟩, 23) := ⟨⟨by decide +kernel, by decide +kernel⟩, List.mem_of_getElem? (i := 761) (by decide +kernel), List.mem_of_getElem? (i := 929) (by decide +kernel), List.mem_of_getElem? (i := 930) (by decide +kernel)⟩
theorem lw_p38 : lw_okq (⟨"NameMoverModel", "override", "(II)Z"⟩, 23) := ⟨⟨by decide +kernel, by decide +kernel⟩, List.mem_of_getElem? (i := 761) (by decide +kernel), List.mem_of_getElem? (i := 933) (by decide +kernel), List.mem_of_getElem? (i := 934) (by decide +kernel)⟩
theorem lw_p39 : lw_okq (⟨"NameMoverModel", "isMethod", "(I)Z"⟩, 23) := ⟨⟨by decide +kernel, by decide +kernel⟩, List.mem_of_getElem? (i := 761) (by decide +kernel), List.mem_of_getElem? (i := 937) (by decide +kernel), List.mem_of_getElem? (i := 938) (by decide +kernel)⟩
theorem lw_p40 : lw_okq (⟨"NameMoverModel", "areRelated", "(II)Z"⟩, 23) := ⟨⟨by decide +kernel, by decide +kernel⟩, List.mem_of_getElem? (i := 761) (by decide +kernel), List.mem_of_getElem? (i := 941) (by decide +kernel), List.mem_of_getElem? (i := 942) (by decide +kernel)⟩
theorem lw_p41 : lw_okq (⟨"NameMoverModel", "isAbove", "(II)Z"⟩, 23) := ⟨⟨by decide +kernel, by decide +kernel⟩, List.mem_of_getElem? (i := 761) (by decide +kernel), List.mem_of_getElem? (i := 945) (by decide +kernel), List.mem_of_getElem? (i := 946) (by decide +kernel)⟩
theorem lw_p42 : lw_okq (⟨"NameMoverModel", "trouble", "()I"⟩, 23) := ⟨⟨by decide +kernel, by decide +kernel⟩, List.mem_of_getElem? (i := 761) (by decide +kernel), List.mem_of_getElem? (i := 953) (by decide +kernel), List.mem_of_getElem? (i := 954) (by decide +kernel)⟩
theorem lw_p43 : lw_okq (⟨"NameMoverModel", "isThere", "(I)Z"⟩, 23) := ⟨⟨by decide +kernel, by decide +kernel⟩, List.mem_of_getElem? (i := 761) (by decide +kernel), List.mem_of_getElem? (i := 957) (by decide +kernel), List.mem_of_getElem? (i := 958) (by decide +kernel)⟩
theorem lw_p44 : lw_okq (⟨"NameMoverModel", "parts", "(II)Z"⟩, 23) := ⟨⟨by decide +kernel, by decide +kernel⟩, List.mem_of_getElem? (i := 761) (by decide +kernel), List.mem_of_getElem? (i := 961) (by decide +kernel), List.mem_of_getElem? (i := 962) (by decide +kernel)⟩
theorem lw_p45 : lw_okq (⟨"NameMoverModel", "meet", "(II)Z"⟩, 23) := ⟨⟨by decide +kernel, by decide +kernel⟩, List.mem_of_getElem? (i := 761) (by decide +kernel), List.mem_of_getElem? (i := 965) (by decide +kernel), List.mem_of_getElem? (i := 966) (by decide +kernel)⟩
theorem lw_p46 : lw_okq (⟨"NameMoverModel", "make", "(I)V"⟩, 23) := ⟨⟨by decide +kernel, by decide +kernel⟩, List.mem_of_getElem? (i := 761) (by decide +kernel), List.mem_of_getElem? (i := 998) (by decide +kernel), List.mem_of_getElem? (i := 999) (by decide +kernel)⟩
theorem lw_p47 : lw_okq (⟨"NameMoverModel", "nameInPool", "(J)I"⟩, 23) := ⟨⟨by decide +kernel, by decide +kernel⟩, List.mem_of_getElem? (i := 761) (by decide +kernel), List.mem_of_getElem? (i := 1002) (by decide +kernel), List.mem_of_getElem? (i := 1003) (by decide +kernel)⟩
def lw_privs_3 : List (MethodName × Nat) := [(⟨"NameMoverModel", "isDescriptor", "(JI)Z"⟩, 23), (⟨"NameMoverModel", "type", "(JI)Z"⟩, 23), (⟨"NameMoverModel", "has", "(IJJ)I"⟩, 23), (⟨"NameMoverModel", "putMember", "(IJJZ)V"⟩, 23), (⟨"NameMoverModel", "isMember", "(II)Z"⟩, 23), (⟨"NameMoverModel", "family", "(I)I"⟩, 23), (⟨"NameMoverModel", "override", "(II)Z"⟩, 23), (⟨"NameMoverModel", "isMethod", "(I)Z"⟩, 23), (⟨"NameMoverModel", "areRelated", "(II)Z"⟩, 23), (⟨"NameMoverModel", "isAbove", "(II)Z"⟩, 23), (⟨"NameMoverModel", "trouble", "()I"⟩, 23), (⟨"NameMoverModel", "isThere", "(I)Z"⟩, 23), (⟨"NameMoverModel", "parts", "(II)Z"⟩, 23), (⟨"NameMoverModel", "meet", "(II)Z"⟩, 23), (⟨"NameMoverModel", "make", "(I)V"⟩, 23), (⟨"NameMoverModel", "nameInPool", "(J)I"⟩, 23)]
theorem lw_r3 : ∀ q ∈ lw_privs_3, lw_okq q := List.forall_mem_cons.mpr ⟨lw_p32, List.forall_mem_cons.mpr ⟨lw_p33, List.forall_mem_cons.mpr ⟨lw_p34, List.forall_mem_cons.mpr ⟨lw_p35, List.forall_mem_cons.mpr ⟨lw_p36, List.forall_mem_cons.mpr ⟨lw_p37, List.forall_mem_cons.mpr ⟨lw_p38, List.forall_mem_cons.mpr ⟨lw_p39, List.forall_mem_cons.mpr ⟨lw_p40, List.forall_mem_cons.mpr ⟨lw_p41, List.forall_mem_cons.mpr ⟨lw_p42, List.forall_mem_cons.mpr ⟨lw_p43, List.forall_mem_cons.mpr ⟨lw_p44, List.forall_mem_cons.mpr ⟨lw_p45, List.forall_mem_cons.mpr ⟨lw_p46, List.forall_mem_cons.mpr ⟨lw_p47, fun _ h => absurd h List.not_mem_nil⟩⟩⟩⟩⟩⟩⟩⟩⟩⟩⟩⟩⟩⟩⟩⟩
theorem lw_p48 : lw_okq (⟨"NameMoverModel", "spell", "(J)V"⟩, 23) := ⟨⟨by decide +kernel, by decide +kernel⟩, List.mem_of_getElem? (i := 761) (by decide +kernel), List.mem_of_getElem? (i := 1006) (by decide +kernel), List.mem_of_getElem? (i := 1007) (by decide +kernel)⟩
theorem lw_p49 : lw_okq (⟨"NameMoverModel", "pooled", "()I"⟩, 23) := ⟨⟨by decide +kernel, by decide +kernel⟩, List.mem_of_getElem? (i := 761) (by decide +kernel), List.mem_of_getElem? (i := 1010) (by decide +kernel), List.mem_of_getElem? (i := 1011) (by decide +kernel)⟩
theorem lw_p50 : lw_okq (⟨"NameMoverModel", "descriptorInPool", "(J)I"⟩, 23) := ⟨⟨by decide +kernel, by decide +kernel⟩, List.mem_of_getElem? (i := 761) (by decide +kernel), List.mem_of_getElem? (i := 1014) (by decide +kernel), List.mem_of_getElem? (i := 1015) (by decide +kernel)⟩
theorem lw_p51 : lw_okq (⟨"NameMoverModel", "emit", "(I)V"⟩, 23) := ⟨⟨by decide +kernel, by decide +kernel⟩, List.mem_of_getElem? (i := 761) (by decide +kernel), List.mem_of_getElem? (i := 1018) (by decide +kernel), List.mem_of_getElem? (i := 1019) (by decide +kernel)⟩
theorem lw_p52 : lw_okq (⟨"NameMoverModel", "readClass", "()Z"⟩, 23) := ⟨⟨by decide +kernel, by decide +kernel⟩, List.mem_of_getElem? (i := 761) (by decide +kernel), List.mem_of_getElem? (i := 1034) (by decide +kernel), List.mem_of_getElem? (i := 1035) (by decide +kernel)⟩
theorem lw_p53 : lw_okq (⟨"NameMoverModel", "readPool", "()Z"⟩, 23) := ⟨⟨by decide +kernel, by decide +kernel⟩, List.mem_of_getElem? (i := 761) (by decide +kernel), List.mem_of_getElem? (i := 1038) (by decide +kernel), List.mem_of_getElem? (i := 1039) (by decide +kernel)⟩
theorem lw_p54 : lw_okq (⟨"NameMoverModel", "next", "()I"⟩, 23) := ⟨⟨by decide +kernel, by decide +kernel⟩, List.mem_of_getElem? (i := 761) (by decide +kernel), List.mem_of_getElem? (i := 1042) (by decide +kernel), List.mem_of_getElem? (i := 1043) (by decide +kernel)⟩
theorem lw_p55 : lw_okq (⟨"NameMoverModel", "textOf", "(I)J"⟩, 23) := ⟨⟨by decide +kernel, by decide +kernel⟩, List.mem_of_getElem? (i := 761) (by decide +kernel), List.mem_of_getElem? (i := 1046) (by decide +kernel), List.mem_of_getElem? (i := 1047) (by decide +kernel)⟩
theorem lw_p56 : lw_okq (⟨"NameMoverModel", "readMembers", "(I)Z"⟩, 23) := ⟨⟨by decide +kernel, by decide +kernel⟩, List.mem_of_getElem? (i := 761) (by decide +kernel), List.mem_of_getElem? (i := 1050) (by decide +kernel), List.mem_of_getElem? (i := 1051) (by decide +kernel)⟩
theorem lw_p57 : lw_okq (⟨"NameMoverModel", "descriptorOf", "(I)J"⟩, 23) := ⟨⟨by decide +kernel, by decide +kernel⟩, List.mem_of_getElem? (i := 761) (by decide +kernel), List.mem_of_getElem? (i := 1054) (by decide +kernel), List.mem_of_getElem? (i := 1055) (by decide +kernel)⟩
theorem lw_p58 : lw_okq (⟨"NameMoverModel", "written", "(II)I"⟩, 23) := ⟨⟨by decide +kernel, by decide +kernel⟩, List.mem_of_getElem? (i := 761) (by decide +kernel), List.mem_of_getElem? (i := 1058) (by decide +kernel), List.mem_of_getElem? (i := 1059) (by decide +kernel)⟩
theorem lw_p59 : lw_okq (⟨"NameMoverModel", "isDescriptorOfFile", "(J)Z"⟩, 23) := ⟨⟨by decide +kernel, by decide +kernel⟩, List.mem_of_getElem? (i := 761) (by decide +kernel), List.mem_of_getElem? (i := 1062) (by decide +kernel), List.mem_of_getElem? (i := 1063) (by decide +kernel)⟩
def lw_privs_4 : List (MethodName × Nat) := [(⟨"NameMoverModel", "spell", "(J)V"⟩, 23), (⟨"NameMoverModel", "pooled", "()I"⟩, 23), (⟨"NameMoverModel", "descriptorInPool", "(J)I"⟩, 23), (⟨"NameMoverModel", "emit", "(I)V"⟩, 23), (⟨"NameMoverModel", "readClass", "()Z"⟩, 23), (⟨"NameMoverModel", "readPool", "()Z"⟩, 23), (⟨"NameMoverModel", "next", "()I"⟩, 23), (⟨"NameMoverModel", "textOf", "(I)J"⟩, 23), (⟨"NameMoverModel", "readMembers", "(I)Z"⟩, 23), (⟨"NameMoverModel", "descriptorOf", "(I)J"⟩, 23), (⟨"NameMoverModel", "written", "(II)I"⟩, 23), (⟨"NameMoverModel", "isDescriptorOfFile", "(J)Z"⟩, 23)]
theorem lw_r4 : ∀ q ∈ lw_privs_4, lw_okq q := List.forall_mem_cons.mpr ⟨lw_p48, List.forall_mem_cons.mpr ⟨lw_p49, List.forall_mem_cons.mpr ⟨lw_p50, List.forall_mem_cons.mpr ⟨lw_p51, List.forall_mem_cons.mpr ⟨lw_p52, List.forall_mem_cons.mpr ⟨lw_p53, List.forall_mem_cons.mpr ⟨lw_p54, List.forall_mem_cons.mpr ⟨lw_p55, List.forall_mem_cons.mpr ⟨lw_p56, List.forall_mem_cons.mpr ⟨lw_p57, List.forall_mem_cons.mpr ⟨lw_p58, List.forall_mem_cons.mpr ⟨lw_p59, fun _ h => absurd h List.not_mem_nil⟩⟩⟩⟩⟩⟩⟩⟩⟩⟩⟩⟩
def lw_privs : List (MethodName × Nat) := lw_privs_1 ++ (lw_privs_2 ++ (lw_privs_3 ++ (lw_privs_4)))
def lw_tbl : List Cond := k2_sels lw_privs ++ tables_1
theorem lw_privs_ok : ∀ q ∈ lw_privs, lw_okq q := by
  show ∀ q ∈ lw_privs_1 ++ (lw_privs_2 ++ (lw_privs_3 ++ (lw_privs_4))), lw_okq q
  exact List.forall_mem_append.mpr ⟨lw_r1, List.forall_mem_append.mpr ⟨lw_r2, List.forall_mem_append.mpr ⟨lw_r3, lw_r4⟩⟩⟩
end
section
def RN : String := "NameMover"
def FN : u_T := fun k => match k with
  | 0 => ("NameMover", "store", "LNameMover$Store;", true)
  | 1 => ("NameMover", "buffer", "LNameMover$ByteRow;", true)
  | 2 => ("NameMover", "trial", "LNameMover$ByteRow;", true)
  | 3 => ("NameMover", "writer", "LNameMover$ClassWriter;", true)
  | 4 => ("NameMover", "trialWriter", "LNameMover$ClassWriter;", true)
  | _ => ("NameMover", "reader", "LNameMover$ClassReader;", true)
def tN : Nat → FieldType := fun k => match k with
  | 0 => .object "NameMover$Store"
  | 1 => .object "NameMover$ByteRow"
  | 2 => .object "NameMover$ByteRow"
  | 3 => .object "NameMover$ClassWriter"
  | 4 => .object "NameMover$ClassWriter"
  | _ => .object "NameMover$ClassReader"
theorem nN : ∀ a, a < 6 → ∀ b, b < 6 → a ≠ b → (FN a).2.1 ≠ (FN b).2.1 := by decide +kernel
theorem tN_ok : ∀ k, k < 6 → parseFieldDescriptor (FN k).2.2.1 = some (tN k) := by decide +kernel
def RS : String := "NameMover$Store"
def FS : u_T := fun k => match k with
  | 0 => ("NameMover$Store", "names", "[J", true)
  | 1 => ("NameMover$Store", "newNames", "[J", true)
  | 2 => ("NameMover$Store", "superclasses", "[I", true)
  | 3 => ("NameMover$Store", "libraries", "[Z", true)
  | 4 => ("NameMover$Store", "memberCounts", "[I", true)
  | 5 => ("NameMover$Store", "ancestors", "[I", true)
  | 6 => ("NameMover$Store", "memberNames", "[J", true)
  | 7 => ("NameMover$Store", "memberNewNames", "[J", true)
  | 8 => ("NameMover$Store", "descriptors", "[J", true)
  | 9 => ("NameMover$Store", "fixed", "[Z", true)
  | _ => ("NameMover$Store", "count", "I", false)
def tS : Nat → FieldType := fun k => match k with
  | 0 => .array .long
  | 1 => .array .long
  | 2 => .array .int
  | 3 => .array .boolean
  | 4 => .array .int
  | 5 => .array .int
  | 6 => .array .long
  | 7 => .array .long
  | 8 => .array .long
  | 9 => .array .boolean
  | _ => .int
theorem nS : ∀ a, a < 11 → ∀ b, b < 11 → a ≠ b → (FS a).2.1 ≠ (FS b).2.1 := by decide +kernel
theorem tS_ok : ∀ k, k < 11 → parseFieldDescriptor (FS k).2.2.1 = some (tS k) := by decide +kernel
def RB : String := "NameMover$ByteRow"
def FB : u_T := fun k => match k with
  | 0 => ("NameMover$ByteRow", "bytes", "[I", true)
  | _ => ("NameMover$ByteRow", "length", "I", false)
def tB : Nat → FieldType := fun k => match k with
  | 0 => .array .int
  | _ => .int
theorem nB : ∀ a, a < 2 → ∀ b, b < 2 → a ≠ b → (FB a).2.1 ≠ (FB b).2.1 := by decide +kernel
theorem tB_ok : ∀ k, k < 2 → parseFieldDescriptor (FB k).2.2.1 = some (tB k) := by decide +kernel
def RW : String := "NameMover$ClassWriter"
def FW : u_T := fun k => match k with
  | 0 => ("NameMover$ClassWriter", "store", "LNameMover$Store;", true)
  | 1 => ("NameMover$ClassWriter", "row", "LNameMover$ByteRow;", true)
  | 2 => ("NameMover$ClassWriter", "behindPool", "[I", true)
  | 3 => ("NameMover$ClassWriter", "waiting", "I", false)
  | 4 => ("NameMover$ClassWriter", "starts", "[I", true)
  | _ => ("NameMover$ClassWriter", "texts", "I", false)
def tW : Nat → FieldType := fun k => match k with
  | 0 => .object "NameMover$Store"
  | 1 => .object "NameMover$ByteRow"
  | 2 => .array .int
  | 3 => .int
  | 4 => .array .int
  | _ => .int
theorem nW : ∀ a, a < 6 → ∀ b, b < 6 → a ≠ b → (FW a).2.1 ≠ (FW b).2.1 := by decide +kernel
theorem tW_ok : ∀ k, k < 6 → parseFieldDescriptor (FW k).2.2.1 = some (tW k) := by decide +kernel
def RR : String := "NameMover$ClassReader"
def FR : u_T := fun k => match k with
  | 0 => ("NameMover$ClassReader", "store", "LNameMover$Store;", true)
  | 1 => ("NameMover$ClassReader", "row", "LNameMover$ByteRow;", true)
  | 2 => ("NameMover$ClassReader", "starts", "[I", true)
  | 3 => ("NameMover$ClassReader", "texts", "I", false)
  | _ => ("NameMover$ClassReader", "at", "I", false)
def tR : Nat → FieldType := fun k => match k with
  | 0 => .object "NameMover$Store"
  | 1 => .object "NameMover$ByteRow"
  | 2 => .array .int
  | 3 => .int
  | _ => .int
theorem nR : ∀ a, a < 5 → ∀ b, b < 5 → a ≠ b → (FR a).2.1 ≠ (FR b).2.1 := by decide +kernel
theorem tR_ok : ∀ k, k < 5 → parseFieldDescriptor (FR k).2.2.1 = some (tR k) := by decide +kernel
def RM : String := "NameMoverModel"
def FM : u_T := fun k => match k with
  | 0 => ("NameMoverModel", "thrown", "I", false)
  | 1 => ("NameMoverModel", "count", "I", false)
  | 2 => ("NameMoverModel", "names", "[J", true)
  | 3 => ("NameMoverModel", "fresh", "[J", true)
  | 4 => ("NameMoverModel", "above", "[I", true)
  | 5 => ("NameMoverModel", "library", "[Z", true)
  | 6 => ("NameMoverModel", "members", "[I", true)
  | 7 => ("NameMoverModel", "memberNames", "[J", true)
  | 8 => ("NameMoverModel", "memberFresh", "[J", true)
  | 9 => ("NameMoverModel", "descriptors", "[J", true)
  | 10 => ("NameMoverModel", "fixed", "[Z", true)
  | 11 => ("NameMoverModel", "marked", "[Z", true)
  | 12 => ("NameMoverModel", "buffer", "[I", true)
  | 13 => ("NameMoverModel", "size", "I", false)
  | 14 => ("NameMoverModel", "made", "[I", true)
  | 15 => ("NameMoverModel", "madeSize", "I", false)
  | 16 => ("NameMoverModel", "pool", "I", false)
  | 17 => ("NameMoverModel", "poolChars", "[I", true)
  | 18 => ("NameMoverModel", "poolSize", "[I", true)
  | 19 => ("NameMoverModel", "line", "[I", true)
  | 20 => ("NameMoverModel", "lineSize", "I", false)
  | 21 => ("NameMoverModel", "used", "[I", true)
  | _ => ("NameMoverModel", "at", "I", false)
def tM : Nat → FieldType := fun k => match k with
  | 0 => .int
  | 1 => .int
  | 2 => .array .long
  | 3 => .array .long
  | 4 => .array .int
  | 5 => .array .boolean
  | 6 => .array .int
  | 7 => .array .long
  | 8 => .array .long
  | 9 => .array .long
  | 10 => .array .boolean
  | 11 => .array .boolean
  | 12 => .array .int
  | 13 => .int
  | 14 => .array .int
  | 15 => .int
  | 16 => .int
  | 17 => .array .int
  | 18 => .array .int
  | 19 => .array .int
  | 20 => .int
  | 21 => .array .int
  | _ => .int
theorem nM : ∀ a, a < 23 → ∀ b, b < 23 → a ≠ b → (FM a).2.1 ≠ (FM b).2.1 := by decide +kernel
theorem tM_ok : ∀ k, k < 23 → parseFieldDescriptor (FM k).2.2.1 = some (tM k) := by decide +kernel
abbrev xCl : List vw_C := [(RN, FN, 6), (RS, FS, 11), (RB, FB, 2), (RW, FW, 6), (RR, FR, 5), (RM, FM, 23)]
def xgb (w : Cond) : Bool := goodWord w || xnw w
theorem xgb_gw {w : Cond} (h : xgb w = true) : xgw w := by
  unfold xgb at h
  rw [Bool.or_eq_true] at h
  rcases h with h | h
  · exact Or.inl (good_of_word h)
  · exact Or.inr h
/-- the words that stay true: every method's words -/
def xtt : List Cond := lw_tbl.filter xgb
theorem xtt_in {w : Cond} (h : w ∈ lw_tbl) (hb : xgb w = true) : w ∈ xtt := List.mem_filter.mpr ⟨h, hb⟩
theorem xtt_t {w : Cond} {i : Nat} (h : tables_1[i]? = some w) (hb : xgb w = true) : w ∈ xtt := xtt_in (List.mem_append_right _ (List.mem_of_getElem? h)) hb
theorem xtt_s {w : Cond} {i : Nat} (h : (k2_sels lw_privs)[i]? = some w) (hb : xgb w = true) : w ∈ xtt := xtt_in (List.mem_append_left _ (List.mem_of_getElem? h)) hb
theorem xtt_good {c c' : Cond} (hc : c' ∈ xtt) : xGood (c :: xtt) (c' :: xtt) := fun w hw => by
  have h : w ∈ xtt := by
    rcases List.mem_cons.mp hw with rfl | h
    · exact hc
    · exact h
  exact ⟨List.mem_cons_of_mem _ h, xgb_gw (List.mem_filter.mp h).2⟩
theorem tc {c w : Cond} (h : w ∈ xtt) : w ∈ c :: xtt := List.mem_cons_of_mem _ h
end
section
/-- the words that pass the kit's own rule -/
def xt2 : List Cond := lw_tbl.filter goodWord
theorem xt2_t {w : Cond} {i : Nat} (h : tables_1[i]? = some w) (hb : goodWord w = true) : w ∈ xt2 := List.mem_filter.mpr ⟨List.mem_append_right _ (List.mem_of_getElem? h), hb⟩
theorem tc2 {c w : Cond} (h : w ∈ xt2) : w ∈ c :: xt2 := List.mem_cons_of_mem _ h
theorem xt2_good {c c' : Cond} (hc : c' ∈ xt2) : GoodIn (c :: xt2) (c' :: xt2) := fun w hw => by
  have h : w ∈ xt2 := by
    rcases List.mem_cons.mp hw with rfl | h
    · exact hc
    · exact h
  exact ⟨List.mem_cons_of_mem _ h, good_of_word (List.mem_filter.mp h).2⟩
theorem tv_2 : (Cond.initialized "NameMover$Store") ∈ xt2 := xt2_t (i := 2) (by decide +kernel) (by decide +kernel)
theorem tv_3 : (Cond.initialized "NameMover$ByteRow") ∈ xt2 := xt2_t (i := 3) (by decide +kernel) (by decide +kernel)
theorem tv_4 : (Cond.initialized "NameMover$ClassWriter") ∈ xt2 := xt2_t (i := 4) (by decide +kernel) (by decide +kernel)
theorem tv_5 : (Cond.initialized "NameMover$ClassReader") ∈ xt2 := xt2_t (i := 5) (by decide +kernel) (by decide +kernel)
theorem tv_24 : (Cond.methodLink "NameMover" 1 ⟨"java/lang/Object", "<init>", "()V"⟩) ∈ xt2 := xt2_t (i := 24) (by decide +kernel) (by decide +kernel)
theorem tv_25 : (Cond.instanceMethod ⟨"java/lang/Object", "<init>", "()V"⟩) ∈ xt2 := xt2_t (i := 25) (by decide +kernel) (by decide +kernel)
theorem tv_26 : (Cond.code ⟨"java/lang/Object", "<init>", "()V"⟩ object_method_1_code 1 (none : Option FieldType)) ∈ xt2 := xt2_t (i := 26) (by decide +kernel) (by decide +kernel)
theorem tv_27 : (Cond.classLink "NameMover" 7 "NameMover$Store") ∈ xt2 := xt2_t (i := 27) (by decide +kernel) (by decide +kernel)
theorem tv_28 : (Cond.instantiable "NameMover$Store" 11) ∈ xt2 := xt2_t (i := 28) (by decide +kernel) (by decide +kernel)
theorem tv_30 : (Cond.instanceMethod ⟨"NameMover$Store", "<init>", "()V"⟩) ∈ xt2 := xt2_t (i := 30) (by decide +kernel) (by decide +kernel)
theorem tv_31 : (Cond.code ⟨"NameMover$Store", "<init>", "()V"⟩ prog_8_method_1_code 1 (none : Option FieldType)) ∈ xt2 := xt2_t (i := 31) (by decide +kernel) (by decide +kernel)
theorem tv_32 : (Cond.methodLink "NameMover$Store" 3 ⟨"java/lang/Object", "<init>", "()V"⟩) ∈ xt2 := xt2_t (i := 32) (by decide +kernel) (by decide +kernel)
theorem tv_33 : (Cond.fieldLink "NameMover$Store" 9 "NameMover$Store" "names" "[J") ∈ xt2 := xt2_t (i := 33) (by decide +kernel) (by decide +kernel)
theorem tv_37 : (Cond.fieldLink "NameMover$Store" 13 "NameMover$Store" "newNames" "[J") ∈ xt2 := xt2_t (i := 37) (by decide +kernel) (by decide +kernel)
theorem tv_40 : (Cond.fieldLink "NameMover$Store" 16 "NameMover$Store" "superclasses" "[I") ∈ xt2 := xt2_t (i := 40) (by decide +kernel) (by decide +kernel)
theorem tv_42 : (Cond.fieldLink "NameMover$Store" 20 "NameMover$Store" "libraries" "[Z") ∈ xt2 := xt2_t (i := 42) (by decide +kernel) (by decide +kernel)
theorem tv_45 : (Cond.fieldLink "NameMover$Store" 24 "NameMover$Store" "memberCounts" "[I") ∈ xt2 := xt2_t (i := 45) (by decide +kernel) (by decide +kernel)
theorem tv_47 : (Cond.fieldLink "NameMover$Store" 27 "NameMover$Store" "ancestors" "[I") ∈ xt2 := xt2_t (i := 47) (by decide +kernel) (by decide +kernel)
theorem tv_48 : (Cond.fieldLink "NameMover$Store" 30 "NameMover$Store" "memberNames" "[J") ∈ xt2 := xt2_t (i := 48) (by decide +kernel) (by decide +kernel)
theorem tv_52 : (Cond.fieldLink "NameMover$Store" 33 "NameMover$Store" "memberNewNames" "[J") ∈ xt2 := xt2_t (i := 52) (by decide +kernel) (by decide +kernel)
theorem tv_55 : (Cond.fieldLink "NameMover$Store" 36 "NameMover$Store" "descriptors" "[J") ∈ xt2 := xt2_t (i := 55) (by decide +kernel) (by decide +kernel)
theorem tv_58 : (Cond.fieldLink "NameMover$Store" 39 "NameMover$Store" "fixed" "[Z") ∈ xt2 := xt2_t (i := 58) (by decide +kernel) (by decide +kernel)
theorem tv_60 : (Cond.fieldLink "NameMover$Store" 42 "NameMover$Store" "count" "I") ∈ xt2 := xt2_t (i := 60) (by decide +kernel) (by decide +kernel)
theorem tv_64 : (Cond.laysFinal "NameMover$Store" "NameMover$Store" "names" "[J") ∈ xt2 := xt2_t (i := 64) (by decide +kernel) (by decide +kernel)
theorem tv_66 : (Cond.laysFinal "NameMover$Store" "NameMover$Store" "newNames" "[J") ∈ xt2 := xt2_t (i := 66) (by decide +kernel) (by decide +kernel)
theorem tv_68 : (Cond.laysFinal "NameMover$Store" "NameMover$Store" "superclasses" "[I") ∈ xt2 := xt2_t (i := 68) (by decide +kernel) (by decide +kernel)
theorem tv_70 : (Cond.laysFinal "NameMover$Store" "NameMover$Store" "libraries" "[Z") ∈ xt2 := xt2_t (i := 70) (by decide +kernel) (by decide +kernel)
theorem tv_72 : (Cond.laysFinal "NameMover$Store" "NameMover$Store" "memberCounts" "[I") ∈ xt2 := xt2_t (i := 72) (by decide +kernel) (by decide +kernel)
theorem tv_74 : (Cond.laysFinal "NameMover$Store" "NameMover$Store" "ancestors" "[I") ∈ xt2 := xt2_t (i := 74) (by decide +kernel) (by decide +kernel)
theorem tv_76 : (Cond.laysFinal "NameMover$Store" "NameMover$Store" "memberNames" "[J") ∈ xt2 := xt2_t (i := 76) (by decide +kernel) (by decide +kernel)
theorem tv_78 : (Cond.laysFinal "NameMover$Store" "NameMover$Store" "memberNewNames" "[J") ∈ xt2 := xt2_t (i := 78) (by decide +kernel) (by decide +kernel)
theorem tv_80 : (Cond.laysFinal "NameMover$Store" "NameMover$Store" "descriptors" "[J") ∈ xt2 := xt2_t (i := 80) (by decide +kernel) (by decide +kernel)
theorem tv_82 : (Cond.laysFinal "NameMover$Store" "NameMover$Store" "fixed" "[Z") ∈ xt2 := xt2_t (i := 82) (by decide +kernel) (by decide +kernel)
theorem tv_84 : (Cond.lays "NameMover$Store" "NameMover$Store" "count" "I") ∈ xt2 := xt2_t (i := 84) (by decide +kernel) (by decide +kernel)
theorem tv_87 : (Cond.arrayClass .long) ∈ xt2 := xt2_t (i := 87) (by decide +kernel) (by decide +kernel)
theorem tv_88 : (Cond.arrayClass .int) ∈ xt2 := xt2_t (i := 88) (by decide +kernel) (by decide +kernel)
theorem tv_89 : (Cond.arrayClass .boolean) ∈ xt2 := xt2_t (i := 89) (by decide +kernel) (by decide +kernel)
theorem tv_90 : (Cond.classLink "NameMover" 16 "NameMover$ByteRow") ∈ xt2 := xt2_t (i := 90) (by decide +kernel) (by decide +kernel)
theorem tv_91 : (Cond.instantiable "NameMover$ByteRow" 2) ∈ xt2 := xt2_t (i := 91) (by decide +kernel) (by decide +kernel)
theorem tv_93 : (Cond.instanceMethod ⟨"NameMover$ByteRow", "<init>", "()V"⟩) ∈ xt2 := xt2_t (i := 93) (by decide +kernel) (by decide +kernel)
theorem tv_94 : (Cond.code ⟨"NameMover$ByteRow", "<init>", "()V"⟩ prog_2_method_1_code 1 (none : Option FieldType)) ∈ xt2 := xt2_t (i := 94) (by decide +kernel) (by decide +kernel)
theorem tv_95 : (Cond.methodLink "NameMover$ByteRow" 1 ⟨"java/lang/Object", "<init>", "()V"⟩) ∈ xt2 := xt2_t (i := 95) (by decide +kernel) (by decide +kernel)
theorem tv_96 : (Cond.fieldLink "NameMover$ByteRow" 9 "NameMover$ByteRow" "bytes" "[I") ∈ xt2 := xt2_t (i := 96) (by decide +kernel) (by decide +kernel)
theorem tv_97 : (Cond.fieldLink "NameMover$ByteRow" 13 "NameMover$ByteRow" "length" "I") ∈ xt2 := xt2_t (i := 97) (by decide +kernel) (by decide +kernel)
theorem tv_98 : (Cond.laysFinal "NameMover$ByteRow" "NameMover$ByteRow" "bytes" "[I") ∈ xt2 := xt2_t (i := 98) (by decide +kernel) (by decide +kernel)
theorem tv_100 : (Cond.lays "NameMover$ByteRow" "NameMover$ByteRow" "length" "I") ∈ xt2 := xt2_t (i := 100) (by decide +kernel) (by decide +kernel)
theorem tv_103 : (Cond.classLink "NameMover" 26 "NameMover$ClassWriter") ∈ xt2 := xt2_t (i := 103) (by decide +kernel) (by decide +kernel)
theorem tv_104 : (Cond.instantiable "NameMover$ClassWriter" 6) ∈ xt2 := xt2_t (i := 104) (by decide +kernel) (by decide +kernel)
theorem tv_105 : (Cond.methodLink "NameMover" 28 ⟨"NameMover$ClassWriter", "<init>", "(LNameMover$Store;LNameMover$ByteRow;)V"⟩) ∈ xt2 := xt2_t (i := 105) (by decide +kernel) (by decide +kernel)
theorem tv_106 : (Cond.instanceMethod ⟨"NameMover$ClassWriter", "<init>", "(LNameMover$Store;LNameMover$ByteRow;)V"⟩) ∈ xt2 := xt2_t (i := 106) (by decide +kernel) (by decide +kernel)
theorem tv_107 : (Cond.code ⟨"NameMover$ClassWriter", "<init>", "(LNameMover$Store;LNameMover$ByteRow;)V"⟩ prog_4_method_1_code 3 (none : Option FieldType)) ∈ xt2 := xt2_t (i := 107) (by decide +kernel) (by decide +kernel)
theorem tv_108 : (Cond.methodLink "NameMover$ClassWriter" 1 ⟨"java/lang/Object", "<init>", "()V"⟩) ∈ xt2 := xt2_t (i := 108) (by decide +kernel) (by decide +kernel)
theorem tv_109 : (Cond.fieldLink "NameMover$ClassWriter" 25 "NameMover$ClassWriter" "store" "LNameMover$Store;") ∈ xt2 := xt2_t (i := 109) (by decide +kernel) (by decide +kernel)
theorem tv_110 : (Cond.fieldLink "NameMover$ClassWriter" 29 "NameMover$ClassWriter" "row" "LNameMover$ByteRow;") ∈ xt2 := xt2_t (i := 110) (by decide +kernel) (by decide +kernel)
theorem tv_111 : (Cond.fieldLink "NameMover$ClassWriter" 9 "NameMover$ClassWriter" "behindPool" "[I") ∈ xt2 := xt2_t (i := 111) (by decide +kernel) (by decide +kernel)
theorem tv_112 : (Cond.fieldLink "NameMover$ClassWriter" 15 "NameMover$ClassWriter" "waiting" "I") ∈ xt2 := xt2_t (i := 112) (by decide +kernel) (by decide +kernel)
theorem tv_113 : (Cond.fieldLink "NameMover$ClassWriter" 19 "NameMover$ClassWriter" "starts" "[I") ∈ xt2 := xt2_t (i := 113) (by decide +kernel) (by decide +kernel)
theorem tv_114 : (Cond.fieldLink "NameMover$ClassWriter" 22 "NameMover$ClassWriter" "texts" "I") ∈ xt2 := xt2_t (i := 114) (by decide +kernel) (by decide +kernel)
theorem tv_115 : (Cond.laysFinal "NameMover$ClassWriter" "NameMover$ClassWriter" "store" "LNameMover$Store;") ∈ xt2 := xt2_t (i := 115) (by decide +kernel) (by decide +kernel)
theorem tv_117 : (Cond.laysFinal "NameMover$ClassWriter" "NameMover$ClassWriter" "row" "LNameMover$ByteRow;") ∈ xt2 := xt2_t (i := 117) (by decide +kernel) (by decide +kernel)
theorem tv_119 : (Cond.laysFinal "NameMover$ClassWriter" "NameMover$ClassWriter" "behindPool" "[I") ∈ xt2 := xt2_t (i := 119) (by decide +kernel) (by decide +kernel)
theorem tv_121 : (Cond.lays "NameMover$ClassWriter" "NameMover$ClassWriter" "waiting" "I") ∈ xt2 := xt2_t (i := 121) (by decide +kernel) (by decide +kernel)
theorem tv_123 : (Cond.laysFinal "NameMover$ClassWriter" "NameMover$ClassWriter" "starts" "[I") ∈ xt2 := xt2_t (i := 123) (by decide +kernel) (by decide +kernel)
theorem tv_125 : (Cond.lays "NameMover$ClassWriter" "NameMover$ClassWriter" "texts" "I") ∈ xt2 := xt2_t (i := 125) (by decide +kernel) (by decide +kernel)
theorem tv_128 : (Cond.classLink "NameMover" 38 "NameMover$ClassReader") ∈ xt2 := xt2_t (i := 128) (by decide +kernel) (by decide +kernel)
theorem tv_129 : (Cond.instantiable "NameMover$ClassReader" 5) ∈ xt2 := xt2_t (i := 129) (by decide +kernel) (by decide +kernel)
theorem tv_130 : (Cond.methodLink "NameMover" 40 ⟨"NameMover$ClassReader", "<init>", "(LNameMover$Store;LNameMover$ByteRow;)V"⟩) ∈ xt2 := xt2_t (i := 130) (by decide +kernel) (by decide +kernel)
theorem tv_131 : (Cond.instanceMethod ⟨"NameMover$ClassReader", "<init>", "(LNameMover$Store;LNameMover$ByteRow;)V"⟩) ∈ xt2 := xt2_t (i := 131) (by decide +kernel) (by decide +kernel)
theorem tv_132 : (Cond.code ⟨"NameMover$ClassReader", "<init>", "(LNameMover$Store;LNameMover$ByteRow;)V"⟩ prog_3_method_1_code 3 (none : Option FieldType)) ∈ xt2 := xt2_t (i := 132) (by decide +kernel) (by decide +kernel)
theorem tv_133 : (Cond.methodLink "NameMover$ClassReader" 1 ⟨"java/lang/Object", "<init>", "()V"⟩) ∈ xt2 := xt2_t (i := 133) (by decide +kernel) (by decide +kernel)
theorem tv_134 : (Cond.fieldLink "NameMover$ClassReader" 22 "NameMover$ClassReader" "store" "LNameMover$Store;") ∈ xt2 := xt2_t (i := 134) (by decide +kernel) (by decide +kernel)
theorem tv_135 : (Cond.fieldLink "NameMover$ClassReader" 26 "NameMover$ClassReader" "row" "LNameMover$ByteRow;") ∈ xt2 := xt2_t (i := 135) (by decide +kernel) (by decide +kernel)
theorem tv_136 : (Cond.fieldLink "NameMover$ClassReader" 9 "NameMover$ClassReader" "starts" "[I") ∈ xt2 := xt2_t (i := 136) (by decide +kernel) (by decide +kernel)
theorem tv_137 : (Cond.fieldLink "NameMover$ClassReader" 15 "NameMover$ClassReader" "texts" "I") ∈ xt2 := xt2_t (i := 137) (by decide +kernel) (by decide +kernel)
theorem tv_138 : (Cond.fieldLink "NameMover$ClassReader" 19 "NameMover$ClassReader" "at" "I") ∈ xt2 := xt2_t (i := 138) (by decide +kernel) (by decide +kernel)
theorem tv_139 : (Cond.laysFinal "NameMover$ClassReader" "NameMover$ClassReader" "store" "LNameMover$Store;") ∈ xt2 := xt2_t (i := 139) (by decide +kernel) (by decide +kernel)
theorem tv_141 : (Cond.laysFinal "NameMover$ClassReader" "NameMover$ClassReader" "row" "LNameMover$ByteRow;") ∈ xt2 := xt2_t (i := 141) (by decide +kernel) (by decide +kernel)
theorem tv_143 : (Cond.laysFinal "NameMover$ClassReader" "NameMover$ClassReader" "starts" "[I") ∈ xt2 := xt2_t (i := 143) (by decide +kernel) (by decide +kernel)
theorem tv_145 : (Cond.lays "NameMover$ClassReader" "NameMover$ClassReader" "texts" "I") ∈ xt2 := xt2_t (i := 145) (by decide +kernel) (by decide +kernel)
theorem tv_147 : (Cond.lays "NameMover$ClassReader" "NameMover$ClassReader" "at" "I") ∈ xt2 := xt2_t (i := 147) (by decide +kernel) (by decide +kernel)
theorem tv_150 : (Cond.fieldLink "NameMover" 10 "NameMover" "store" "LNameMover$Store;") ∈ xt2 := xt2_t (i := 150) (by decide +kernel) (by decide +kernel)
theorem tv_151 : (Cond.fieldLink "NameMover" 19 "NameMover" "buffer" "LNameMover$ByteRow;") ∈ xt2 := xt2_t (i := 151) (by decide +kernel) (by decide +kernel)
theorem tv_152 : (Cond.fieldLink "NameMover" 23 "NameMover" "trial" "LNameMover$ByteRow;") ∈ xt2 := xt2_t (i := 152) (by decide +kernel) (by decide +kernel)
theorem tv_153 : (Cond.fieldLink "NameMover" 31 "NameMover" "writer" "LNameMover$ClassWriter;") ∈ xt2 := xt2_t (i := 153) (by decide +kernel) (by decide +kernel)
theorem tv_154 : (Cond.fieldLink "NameMover" 35 "NameMover" "trialWriter" "LNameMover$ClassWriter;") ∈ xt2 := xt2_t (i := 154) (by decide +kernel) (by decide +kernel)
theorem tv_155 : (Cond.fieldLink "NameMover" 41 "NameMover" "reader" "LNameMover$ClassReader;") ∈ xt2 := xt2_t (i := 155) (by decide +kernel) (by decide +kernel)
theorem tv_156 : (Cond.laysFinal "NameMover" "NameMover" "store" "LNameMover$Store;") ∈ xt2 := xt2_t (i := 156) (by decide +kernel) (by decide +kernel)
theorem tv_158 : (Cond.laysFinal "NameMover" "NameMover" "buffer" "LNameMover$ByteRow;") ∈ xt2 := xt2_t (i := 158) (by decide +kernel) (by decide +kernel)
theorem tv_160 : (Cond.laysFinal "NameMover" "NameMover" "trial" "LNameMover$ByteRow;") ∈ xt2 := xt2_t (i := 160) (by decide +kernel) (by decide +kernel)
theorem tv_162 : (Cond.laysFinal "NameMover" "NameMover" "writer" "LNameMover$ClassWriter;") ∈ xt2 := xt2_t (i := 162) (by decide +kernel) (by decide +kernel)
theorem tv_164 : (Cond.laysFinal "NameMover" "NameMover" "trialWriter" "LNameMover$ClassWriter;") ∈ xt2 := xt2_t (i := 164) (by decide +kernel) (by decide +kernel)
theorem tv_166 : (Cond.laysFinal "NameMover" "NameMover" "reader" "LNameMover$ClassReader;") ∈ xt2 := xt2_t (i := 166) (by decide +kernel) (by decide +kernel)
theorem tv_765 : (Cond.methodLink "NameMoverModel" 1 ⟨"java/lang/Object", "<init>", "()V"⟩) ∈ xt2 := xt2_t (i := 765) (by decide +kernel) (by decide +kernel)
theorem tv_768 : (Cond.fieldLink "NameMoverModel" 7 "NameMoverModel" "names" "[J") ∈ xt2 := xt2_t (i := 768) (by decide +kernel) (by decide +kernel)
theorem tv_769 : (Cond.fieldLink "NameMoverModel" 13 "NameMoverModel" "fresh" "[J") ∈ xt2 := xt2_t (i := 769) (by decide +kernel) (by decide +kernel)
theorem tv_770 : (Cond.fieldLink "NameMoverModel" 16 "NameMoverModel" "above" "[I") ∈ xt2 := xt2_t (i := 770) (by decide +kernel) (by decide +kernel)
theorem tv_771 : (Cond.fieldLink "NameMoverModel" 20 "NameMoverModel" "library" "[Z") ∈ xt2 := xt2_t (i := 771) (by decide +kernel) (by decide +kernel)
theorem tv_772 : (Cond.fieldLink "NameMoverModel" 24 "NameMoverModel" "members" "[I") ∈ xt2 := xt2_t (i := 772) (by decide +kernel) (by decide +kernel)
theorem tv_773 : (Cond.fieldLink "NameMoverModel" 27 "NameMoverModel" "memberNames" "[J") ∈ xt2 := xt2_t (i := 773) (by decide +kernel) (by decide +kernel)
theorem tv_774 : (Cond.fieldLink "NameMoverModel" 30 "NameMoverModel" "memberFresh" "[J") ∈ xt2 := xt2_t (i := 774) (by decide +kernel) (by decide +kernel)
theorem tv_775 : (Cond.fieldLink "NameMoverModel" 33 "NameMoverModel" "descriptors" "[J") ∈ xt2 := xt2_t (i := 775) (by decide +kernel) (by decide +kernel)
theorem tv_776 : (Cond.fieldLink "NameMoverModel" 36 "NameMoverModel" "fixed" "[Z") ∈ xt2 := xt2_t (i := 776) (by decide +kernel) (by decide +kernel)
theorem tv_777 : (Cond.fieldLink "NameMoverModel" 39 "NameMoverModel" "marked" "[Z") ∈ xt2 := xt2_t (i := 777) (by decide +kernel) (by decide +kernel)
theorem tv_778 : (Cond.fieldLink "NameMoverModel" 42 "NameMoverModel" "buffer" "[I") ∈ xt2 := xt2_t (i := 778) (by decide +kernel) (by decide +kernel)
theorem tv_780 : (Cond.fieldLink "NameMoverModel" 45 "NameMoverModel" "made" "[I") ∈ xt2 := xt2_t (i := 780) (by decide +kernel) (by decide +kernel)
theorem tv_783 : (Cond.fieldLink "NameMoverModel" 48 "NameMoverModel" "poolChars" "[I") ∈ xt2 := xt2_t (i := 783) (by decide +kernel) (by decide +kernel)
theorem tv_784 : (Cond.fieldLink "NameMoverModel" 51 "NameMoverModel" "poolSize" "[I") ∈ xt2 := xt2_t (i := 784) (by decide +kernel) (by decide +kernel)
theorem tv_785 : (Cond.fieldLink "NameMoverModel" 54 "NameMoverModel" "line" "[I") ∈ xt2 := xt2_t (i := 785) (by decide +kernel) (by decide +kernel)
theorem tv_787 : (Cond.fieldLink "NameMoverModel" 57 "NameMoverModel" "used" "[I") ∈ xt2 := xt2_t (i := 787) (by decide +kernel) (by decide +kernel)
theorem tv_789 : (Cond.lays "NameMoverModel" "NameMoverModel" "thrown" "I") ∈ xt2 := xt2_t (i := 789) (by decide +kernel) (by decide +kernel)
theorem tv_791 : (Cond.lays "NameMoverModel" "NameMoverModel" "count" "I") ∈ xt2 := xt2_t (i := 791) (by decide +kernel) (by decide +kernel)
theorem tv_793 : (Cond.laysFinal "NameMoverModel" "NameMoverModel" "names" "[J") ∈ xt2 := xt2_t (i := 793) (by decide +kernel) (by decide +kernel)
theorem tv_795 : (Cond.laysFinal "NameMoverModel" "NameMoverModel" "fresh" "[J") ∈ xt2 := xt2_t (i := 795) (by decide +kernel) (by decide +kernel)
theorem tv_797 : (Cond.laysFinal "NameMoverModel" "NameMoverModel" "above" "[I") ∈ xt2 := xt2_t (i := 797) (by decide +kernel) (by decide +kernel)
theorem tv_799 : (Cond.laysFinal "NameMoverModel" "NameMoverModel" "library" "[Z") ∈ xt2 := xt2_t (i := 799) (by decide +kernel) (by decide +kernel)
theorem tv_801 : (Cond.laysFinal "NameMoverModel" "NameMoverModel" "members" "[I") ∈ xt2 := xt2_t (i := 801) (by decide +kernel) (by decide +kernel)
theorem tv_803 : (Cond.laysFinal "NameMoverModel" "NameMoverModel" "memberNames" "[J") ∈ xt2 := xt2_t (i := 803) (by decide +kernel) (by decide +kernel)
theorem tv_805 : (Cond.laysFinal "NameMoverModel" "NameMoverModel" "memberFresh" "[J") ∈ xt2 := xt2_t (i := 805) (by decide +kernel) (by decide +kernel)
theorem tv_807 : (Cond.laysFinal "NameMoverModel" "NameMoverModel" "descriptors" "[J") ∈ xt2 := xt2_t (i := 807) (by decide +kernel) (by decide +kernel)
theorem tv_809 : (Cond.laysFinal "NameMoverModel" "NameMoverModel" "fixed" "[Z") ∈ xt2 := xt2_t (i := 809) (by decide +kernel) (by decide +kernel)
theorem tv_811 : (Cond.laysFinal "NameMoverModel" "NameMoverModel" "marked" "[Z") ∈ xt2 := xt2_t (i := 811) (by decide +kernel) (by decide +kernel)
theorem tv_813 : (Cond.laysFinal "NameMoverModel" "NameMoverModel" "buffer" "[I") ∈ xt2 := xt2_t (i := 813) (by decide +kernel) (by decide +kernel)
theorem tv_815 : (Cond.lays "NameMoverModel" "NameMoverModel" "size" "I") ∈ xt2 := xt2_t (i := 815) (by decide +kernel) (by decide +kernel)
theorem tv_817 : (Cond.laysFinal "NameMoverModel" "NameMoverModel" "made" "[I") ∈ xt2 := xt2_t (i := 817) (by decide +kernel) (by decide +kernel)
theorem tv_819 : (Cond.lays "NameMoverModel" "NameMoverModel" "madeSize" "I") ∈ xt2 := xt2_t (i := 819) (by decide +kernel) (by decide +kernel)
theorem tv_821 : (Cond.lays "NameMoverModel" "NameMoverModel" "pool" "I") ∈ xt2 := xt2_t (i := 821) (by decide +kernel) (by decide +kernel)
theorem tv_823 : (Cond.laysFinal "NameMoverModel" "NameMoverModel" "poolChars" "[I") ∈ xt2 := xt2_t (i := 823) (by decide +kernel) (by decide +kernel)
theorem tv_825 : (Cond.laysFinal "NameMoverModel" "NameMoverModel" "poolSize" "[I") ∈ xt2 := xt2_t (i := 825) (by decide +kernel) (by decide +kernel)
theorem tv_827 : (Cond.laysFinal "NameMoverModel" "NameMoverModel" "line" "[I") ∈ xt2 := xt2_t (i := 827) (by decide +kernel) (by decide +kernel)
theorem tv_829 : (Cond.lays "NameMoverModel" "NameMoverModel" "lineSize" "I") ∈ xt2 := xt2_t (i := 829) (by decide +kernel) (by decide +kernel)
theorem tv_831 : (Cond.laysFinal "NameMoverModel" "NameMoverModel" "used" "[I") ∈ xt2 := xt2_t (i := 831) (by decide +kernel) (by decide +kernel)
theorem tv_833 : (Cond.lays "NameMoverModel" "NameMoverModel" "at" "I") ∈ xt2 := xt2_t (i := 833) (by decide +kernel) (by decide +kernel)
theorem tin2_N {c : Cond} : ∀ w ∈ u_ws RN FN 6, w ∈ c :: xt2 := fun w hw => tc2 ((show ∀ w ∈ u_ws RN FN 6, w ∈ xt2 from List.forall_mem_cons.mpr ⟨tv_156, List.forall_mem_cons.mpr ⟨tv_158, List.forall_mem_cons.mpr ⟨tv_160, List.forall_mem_cons.mpr ⟨tv_162, List.forall_mem_cons.mpr ⟨tv_164, List.forall_mem_cons.mpr ⟨tv_166, fun _ h => absurd h List.not_mem_nil⟩⟩⟩⟩⟩⟩) w hw)
theorem tin2_S {c : Cond} : ∀ w ∈ u_ws RS FS 11, w ∈ c :: xt2 := fun w hw => tc2 ((show ∀ w ∈ u_ws RS FS 11, w ∈ xt2 from List.forall_mem_cons.mpr ⟨tv_64, List.forall_mem_cons.mpr ⟨tv_66, List.forall_mem_cons.mpr ⟨tv_68, List.forall_mem_cons.mpr ⟨tv_70, List.forall_mem_cons.mpr ⟨tv_72, List.forall_mem_cons.mpr ⟨tv_74, List.forall_mem_cons.mpr ⟨tv_76, List.forall_mem_cons.mpr ⟨tv_78, List.forall_mem_cons.mpr ⟨tv_80, List.forall_mem_cons.mpr ⟨tv_82, List.forall_mem_cons.mpr ⟨tv_84, fun _ h => absurd h List.not_mem_nil⟩⟩⟩⟩⟩⟩⟩⟩⟩⟩⟩) w hw)
theorem tin2_B {c : Cond} : ∀ w ∈ u_ws RB FB 2, w ∈ c :: xt2 := fun w hw => tc2 ((show ∀ w ∈ u_ws RB FB 2, w ∈ xt2 from List.forall_mem_cons.mpr ⟨tv_98, List.forall_mem_cons.mpr ⟨tv_100, fun _ h => absurd h List.not_mem_nil⟩⟩) w hw)
theorem tin2_W {c : Cond} : ∀ w ∈ u_ws RW FW 6, w ∈ c :: xt2 := fun w hw => tc2 ((show ∀ w ∈ u_ws RW FW 6, w ∈ xt2 from List.forall_mem_cons.mpr ⟨tv_115, List.forall_mem_cons.mpr ⟨tv_117, List.forall_mem_cons.mpr ⟨tv_119, List.forall_mem_cons.mpr ⟨tv_121, List.forall_mem_cons.mpr ⟨tv_123, List.forall_mem_cons.mpr ⟨tv_125, fun _ h => absurd h List.not_mem_nil⟩⟩⟩⟩⟩⟩) w hw)
theorem tin2_R {c : Cond} : ∀ w ∈ u_ws RR FR 5, w ∈ c :: xt2 := fun w hw => tc2 ((show ∀ w ∈ u_ws RR FR 5, w ∈ xt2 from List.forall_mem_cons.mpr ⟨tv_139, List.forall_mem_cons.mpr ⟨tv_141, List.forall_mem_cons.mpr ⟨tv_143, List.forall_mem_cons.mpr ⟨tv_145, List.forall_mem_cons.mpr ⟨tv_147, fun _ h => absurd h List.not_mem_nil⟩⟩⟩⟩⟩) w hw)
theorem tin2_M {c : Cond} : ∀ w ∈ u_ws RM FM 23, w ∈ c :: xt2 := fun w hw => tc2 ((show ∀ w ∈ u_ws RM FM 23, w ∈ xt2 from List.forall_mem_cons.mpr ⟨tv_789, List.forall_mem_cons.mpr ⟨tv_791, List.forall_mem_cons.mpr ⟨tv_793, List.forall_mem_cons.mpr ⟨tv_795, List.forall_mem_cons.mpr ⟨tv_797, List.forall_mem_cons.mpr ⟨tv_799, List.forall_mem_cons.mpr ⟨tv_801, List.forall_mem_cons.mpr ⟨tv_803, List.forall_mem_cons.mpr ⟨tv_805, List.forall_mem_cons.mpr ⟨tv_807, List.forall_mem_cons.mpr ⟨tv_809, List.forall_mem_cons.mpr ⟨tv_811, List.forall_mem_cons.mpr ⟨tv_813, List.forall_mem_cons.mpr ⟨tv_815, List.forall_mem_cons.mpr ⟨tv_817, List.forall_mem_cons.mpr ⟨tv_819, List.forall_mem_cons.mpr ⟨tv_821, List.forall_mem_cons.mpr ⟨tv_823, List.forall_mem_cons.mpr ⟨tv_825, List.forall_mem_cons.mpr ⟨tv_827, List.forall_mem_cons.mpr ⟨tv_829, List.forall_mem_cons.mpr ⟨tv_831, List.forall_mem_cons.mpr ⟨tv_833, fun _ h => absurd h List.not_mem_nil⟩⟩⟩⟩⟩⟩⟩⟩⟩⟩⟩⟩⟩⟩⟩⟩⟩⟩⟩⟩⟩⟩⟩) w hw)
end
section
abbrev at_S_init (dC : Nat → ClassId) (dI : Nat → Nat → Nat) (A : Nat → Prop) (h0 : Nat) (_ : Unit) (t : State) : Prop := ∃ (q1 : Nat) (c1 : ClassId), ∃ (q2 : Nat) (c2 : ClassId), ∃ (q3 : Nat) (c3 : ClassId), ∃ (q4 : Nat) (c4 : ClassId), ∃ (q5 : Nat) (c5 : ClassId), ∃ (q6 : Nat) (c6 : ClassId), ∃ (q7 : Nat) (c7 : ClassId), ∃ (q8 : Nat) (c8 : ClassId), ∃ (q9 : Nat) (c9 : ClassId), ∃ (q10 : Nat) (c10 : ClassId), va_P (dC, dI) xCl [(h0, .inr (1, [.ref q1, .ref q2, .ref q3, .ref q4, .ref q5, .ref q6, .ref q7, .ref q8, .ref q9, .ref q10, .int 0])), (q1, .inl (c1, (8, .inr (.inl (fun _ => 0))))), (q2, .inl (c2, (8, .inr (.inl (fun _ => 0))))), (q3, .inl (c3, (8, .inl (fun _ => 0)))), (q4, .inl (c4, (8, .inl (fun _ => 0)))), (q5, .inl (c5, (8, .inl (fun _ => 0)))), (q6, .inl (c6, (8, .inl (fun _ => 0)))), (q7, .inl (c7, (64, .inr (.inl (fun _ => 0))))), (q8, .inl (c8, (64, .inr (.inl (fun _ => 0))))), (q9, .inl (c9, (64, .inr (.inl (fun _ => 0))))), (q10, .inl (c10, (64, .inl (fun _ => 0))))] t.heap ∧ va_K (dC, dI) xCl [(c1, .long), (c2, .long), (c3, .int), (c4, .boolean), (c5, .int), (c6, .int), (c7, .long), (c8, .long), (c9, .long), (c10, .boolean)] t ∧ va_D A [(h0, .inr (1, [.ref q1, .ref q2, .ref q3, .ref q4, .ref q5, .ref q6, .ref q7, .ref q8, .ref q9, .ref q10, .int 0])), (q1, .inl (c1, (8, .inr (.inl (fun _ => 0))))), (q2, .inl (c2, (8, .inr (.inl (fun _ => 0))))), (q3, .inl (c3, (8, .inl (fun _ => 0)))), (q4, .inl (c4, (8, .inl (fun _ => 0)))), (q5, .inl (c5, (8, .inl (fun _ => 0)))), (q6, .inl (c6, (8, .inl (fun _ => 0)))), (q7, .inl (c7, (64, .inr (.inl (fun _ => 0))))), (q8, .inl (c8, (64, .inr (.inl (fun _ => 0))))), (q9, .inl (c9, (64, .inr (.inl (fun _ => 0))))), (q10, .inl (c10, (64, .inl (fun _ => 0))))]
abbrev y_S_init : MethodName := ⟨"NameMover$Store", "<init>", "()V"⟩
abbrev ws_S_init : List Cond := Cond.code y_S_init prog_8_method_1_code 1 none :: xt2
set_option maxHeartbeats 1000000 in
set_option maxRecDepth 100000 in
theorem c_S_init (l : Launch) (dC : Nat → ClassId) (dI : Nat → Nat → Nat) (h0 sz : Nat) : Met l y_S_init ws_S_init ({ frames := 1, cells := 10, slots := 304, locals := 12 }) (va_Pc [.ref h0] (fun U => U.heap.size = sz ∧ va_P (dC, dI) xCl [(h0, .inr (1, [.null, .null, .null, .null, .null, .null, .null, .null, .null, .null, .int 0]))] U.heap ∧ va_K (dC, dI) xCl [] U ∧ va_D (fun _ => True) [(h0, .inr (1, [.null, .null, .null, .null, .null, .null, .null, .null, .null, .null, .int 0]))])) (va_Qv (fun _ : Unit => True) (at_S_init dC dI (va_A [(h0, .inr (1, [.null, .null, .null, .null, .null, .null, .null, .null, .null, .null, .int 0]))] sz) h0) (va_A [(h0, .inr (1, [.null, .null, .null, .null, .null, .null, .null, .null, .null, .null, .int 0]))] sz)) 10 304 (va_A [(h0, .inr (1, [.null, .null, .null, .null, .null, .null, .null, .null, .null, .null, .int 0]))] sz) := by
  refine Met.ofW (cc := prog_8_method_1_code) (maxL := 1) (ret := none) (by decide) rfl ?_
  intro p e s m args below meth c s₁ B hml hv
  obtain ⟨rfl, hsz, hP, hK, hD0⟩ := hv
  have hx := B.exec
  have hb := B.bytes
  have hr := B.returns
  have hts := atoms_spec (ws := ws_S_init) B.pre
  have hown : s.vm.findClass "NameMover$Store" = some m.cls := findClass_of_methodNamed B.named
  have hlocks := B.notSynchronized
  have hin : meth.name = "<init>" := (name_of_methodNamed B.named B.method).1
  subst hsz
  have hD := hD0.self (sz := s.heap.size)
  generalize hAe : va_A [(h0, .inr (1, [.null, .null, .null, .null, .null, .null, .null, .null, .null, .null, .int 0]))] s.heap.size = A at hD ⊢
  have hA : ∀ q : Nat, s.heap.size ≤ q → A q := fun q h => by rw [← hAe]; exact Or.inr h
  have hS : va_S A s.heap s.heap [] := va_S.rf
  have hl := lv_entry ([.ref h0]) (n := 1) (Nat.le_of_ble_eq_true rfl)
  rw [lg_entry_eq]
  generalize (lg_sl ([.ref h0]) ++ List.replicate (1 - (lg_sl ([.ref h0])).length) Slot.unset).toArray = ls at hl ⊢
  have hl : lv_has ls 1 [(0, .ref h0)] := hl
  refine lv_aload_n hx hb (by decide +kernel : decode prog_8_method_1_code 0 = .ok (.aload_n 0, 1)) rfl (lv_at hl 0 rfl) ?_
  refine W.objInit hx hb hown (hts _ (tc2 tv_32)) (hts _ (tc2 tv_25)) (hts _ (tc2 tv_26)) rfl (by rw [hml]; exact hl.1) rfl (by decide +kernel : decode prog_8_method_1_code 1 = .ok (.invokespecial 3, 3)) (Nat.le_of_ble_eq_true rfl) (Nat.le_of_ble_eq_true rfl) ?_
  refine W.eq (g2 := F0 m 4 ls []) rfl ?_
  refine lv_aload_n hx hb (by decide +kernel : decode prog_8_method_1_code 4 = .ok (.aload_n 0, 1)) rfl (lv_at hl 0 rfl) ?_
  refine lv_bipush (v := 8) hx hb (by decide +kernel : decode prog_8_method_1_code 5 = .ok (.bipush 8, 2)) (by decide) ?_
  refine va_newa (D := (dC, dI)) (cl := xCl) (atype := .long) (N' := 8) (a0 := (8, .inr (.inl (fun _ => 0)))) hx hb (hts _ (tc2 tv_87)) rfl hK hP hD hS hA (fun _ => rfl) (by decide) (by decide) (by decide) (by decide : 1 ≤ 10) (by decide : 8 ≤ 304) (by decide +kernel : decode prog_8_method_1_code 7 = .ok (.newarray .long, 2)) (fun q1 c1 H hK hP hD hS => ?_)
  have hP : va_P (dC, dI) xCl [(h0, .inr (1, [.null, .null, .null, .null, .null, .null, .null, .null, .null, .null, .int 0])), (q1, .inl (c1, (8, .inr (.inl (fun _ => 0)))))] H := hP
  have hD : va_D A [(h0, .inr (1, [.null, .null, .null, .null, .null, .null, .null, .null, .null, .null, .int 0])), (q1, .inl (c1, (8, .inr (.inl (fun _ => 0)))))] := hD
  have hK : va_K (dC, dI) xCl [(c1, .long)] s := hK
  refine W.widen (k := 1) (n := 8) (by omega) (by omega) ?_
  refine va_putF (D := (dC, dI)) (ci := 1) (v := .ref q1) (ty := .array .long) (C := RS) (T := FS) (N := 11) hx hb hts tin2_S tS tS_ok nS hown hK hP hD hS 0 rfl rfl 0 (by decide) (hts _ (tc2 tv_33)) (fun _ h9 => h9) rfl hin rfl (by decide +kernel) rfl rfl (Nat.le_of_ble_eq_true rfl) (by decide +kernel : decode prog_8_method_1_code 9 = .ok (.putfield 9, 3)) (fun H locs hP hD hS => ?_)
  have hP : va_P (dC, dI) xCl [(h0, .inr (1, [.ref q1, .null, .null, .null, .null, .null, .null, .null, .null, .null, .int 0])), (q1, .inl (c1, (8, .inr (.inl (fun _ => 0)))))] H := hP
  have hD : va_D A [(h0, .inr (1, [.ref q1, .null, .null, .null, .null, .null, .null, .null, .null, .null, .int 0])), (q1, .inl (c1, (8, .inr (.inl (fun _ => 0)))))] := hD
  refine lv_aload_n hx hb (by decide +kernel : decode prog_8_method_1_code 12 = .ok (.aload_n 0, 1)) rfl (lv_at hl 0 rfl) ?_
  refine lv_bipush (v := 8) hx hb (by decide +kernel : decode prog_8_method_1_code 13 = .ok (.bipush 8, 2)) (by decide) ?_
  refine va_newa (D := (dC, dI)) (cl := xCl) (atype := .long) (N' := 8) (a0 := (8, .inr (.inl (fun _ => 0)))) hx hb (hts _ (tc2 tv_87)) rfl hK hP hD hS hA (fun _ => rfl) (by decide) (by decide) (by decide) (by decide : 2 ≤ 10) (by decide : 16 ≤ 304) (by decide +kernel : decode prog_8_method_1_code 15 = .ok (.newarray .long, 2)) (fun q2 c2 H hK hP hD hS => ?_)
  have hP : va_P (dC, dI) xCl [(h0, .inr (1, [.ref q1, .null, .null, .null, .null, .null, .null, .null, .null, .null, .int 0])), (q1, .inl (c1, (8, .inr (.inl (fun _ => 0))))), (q2, .inl (c2, (8, .inr (.inl (fun _ => 0)))))] H := hP
  have hD : va_D A [(h0, .inr (1, [.ref q1, .null, .null, .null, .null, .null, .null, .null, .null, .null, .int 0])), (q1, .inl (c1, (8, .inr (.inl (fun _ => 0))))), (q2, .inl (c2, (8, .inr (.inl (fun _ => 0)))))] := hD
  have hK : va_K (dC, dI) xCl [(c1, .long), (c2, .long)] s := hK
  refine W.widen (k := 2) (n := 16) (by omega) (by omega) ?_
  refine va_putF (D := (dC, dI)) (ci := 1) (v := .ref q2) (ty := .array .long) (C := RS) (T := FS) (N := 11) hx hb hts tin2_S tS tS_ok nS hown hK hP hD hS 0 rfl rfl 1 (by decide) (hts _ (tc2 tv_37)) (fun _ h9 => h9) rfl hin rfl (by decide +kernel) rfl rfl (Nat.le_of_ble_eq_true rfl) (by decide +kernel : decode prog_8_method_1_code 17 = .ok (.putfield 13, 3)) (fun H locs hP hD hS => ?_)
  have hP : va_P (dC, dI) xCl [(h0, .inr (1, [.ref q1, .ref q2, .null, .null, .null, .null, .null, .null, .null, .null, .int 0])), (q1, .inl (c1, (8, .inr (.inl (fun _ => 0))))), (q2, .inl (c2, (8, .inr (.inl (fun _ => 0)))))] H := hP
  have hD : va_D A [(h0, .inr (1, [.ref q1, .ref q2, .null, .null, .null, .null, .null, .null, .null, .null, .int 0])), (q1, .inl (c1, (8, .inr (.inl (fun _ => 0))))), (q2, .inl (c2, (8, .inr (.inl (fun _ => 0)))))] := hD
  refine lv_aload_n hx hb (by decide +kernel : decode prog_8_method_1_code 20 = .ok (.aload_n 0, 1)) rfl (lv_at hl 0 rfl) ?_
  refine lv_bipush (v := 8) hx hb (by decide +kernel : decode prog_8_method_1_code 21 = .ok (.bipush 8, 2)) (by decide) ?_
  refine va_newa (D := (dC, dI)) (cl := xCl) (atype := .int) (N' := 8) (a0 := (8, .inl (fun _ => 0))) hx hb (hts _ (tc2 tv_88)) rfl hK hP hD hS hA (fun _ => rfl) (by decide) (by decide) (by decide) (by decide : 3 ≤ 10) (by decide : 24 ≤ 304) (by decide +kernel : decode prog_8_method_1_code 23 = .ok (.newarray .int, 2)) (fun q3 c3 H hK hP hD hS => ?_)
  have hP : va_P (dC, dI) xCl [(h0, .inr (1, [.ref q1, .ref q2, .null, .null, .null, .null, .null, .null, .null, .null, .int 0])), (q1, .inl (c1, (8, .inr (.inl (fun _ => 0))))), (q2, .inl (c2, (8, .inr (.inl (fun _ => 0))))), (q3, .inl (c3, (8, .inl (fun _ => 0))))] H := hP
  have hD : va_D A [(h0, .inr (1, [.ref q1, .ref q2, .null, .null, .null, .null, .null, .null, .null, .null, .int 0])), (q1, .inl (c1, (8, .inr (.inl (fun _ => 0))))), (q2, .inl (c2, (8, .inr (.inl (fun _ => 0))))), (q3, .inl (c3, (8, .inl (fun _ => 0))))] := hD
  have hK : va_K (dC, dI) xCl [(c1, .long), (c2, .long), (c3, .int)] s := hK
  refine W.widen (k := 3) (n := 24) (by omega) (by omega) ?_
  refine va_putF (D := (dC, dI)) (ci := 1) (v := .ref q3) (ty := .array .int) (C := RS) (T := FS) (N := 11) hx hb hts tin2_S tS tS_ok nS hown hK hP hD hS 0 rfl rfl 2 (by decide) (hts _ (tc2 tv_40)) (fun _ h9 => h9) rfl hin rfl (by decide +kernel) rfl rfl (Nat.le_of_ble_eq_true rfl) (by decide +kernel : decode prog_8_method_1_code 25 = .ok (.putfield 16, 3)) (fun H locs hP hD hS => ?_)
  have hP : va_P (dC, dI) xCl [(h0, .inr (1, [.ref q1, .ref q2, .ref q3, .null, .null, .null, .null, .null, .null, .null, .int 0])), (q1, .inl (c1, (8, .inr (.inl (fun _ => 0))))), (q2, .inl (c2, (8, .inr (.inl (fun _ => 0))))), (q3, .inl (c3, (8, .inl (fun _ => 0))))] H := hP
  have hD : va_D A [(h0, .inr (1, [.ref q1, .ref q2, .ref q3, .null, .null, .null, .null, .null, .null, .null, .int 0])), (q1, .inl (c1, (8, .inr (.inl (fun _ => 0))))), (q2, .inl (c2, (8, .inr (.inl (fun _ => 0))))), (q3, .inl (c3, (8, .inl (fun _ => 0))))] := hD
  refine lv_aload_n hx hb (by decide +kernel : decode prog_8_method_1_code 28 = .ok (.aload_n 0, 1)) rfl (lv_at hl 0 rfl) ?_
  refine lv_bipush (v := 8) hx hb (by decide +kernel : decode prog_8_method_1_code 29 = .ok (.bipush 8, 2)) (by decide) ?_
  refine va_newa (D := (dC, dI)) (cl := xCl) (atype := .boolean) (N' := 8) (a0 := (8, .inl (fun _ => 0))) hx hb (hts _ (tc2 tv_89)) rfl hK hP hD hS hA (fun _ => rfl) (by decide) (by decide) (by decide) (by decide : 4 ≤ 10) (by decide : 32 ≤ 304) (by decide +kernel : decode prog_8_method_1_code 31 = .ok (.newarray .boolean, 2)) (fun q4 c4 H hK hP hD hS => ?_)
  have hP : va_P (dC, dI) xCl [(h0, .inr (1, [.ref q1, .ref q2, .ref q3, .null, .null, .null, .null, .null, .null, .null, .int 0])), (q1, .inl (c1, (8, .inr (.inl (fun _ => 0))))), (q2, .inl (c2, (8, .inr (.inl (fun _ => 0))))), (q3, .inl (c3, (8, .inl (fun _ => 0)))), (q4, .inl (c4, (8, .inl (fun _ => 0))))] H := hP
  have hD : va_D A [(h0, .inr (1, [.ref q1, .ref q2, .ref q3, .null, .null, .null, .null, .null, .null, .null, .int 0])), (q1, .inl (c1, (8, .inr (.inl (fun _ => 0))))), (q2, .inl (c2, (8, .inr (.inl (fun _ => 0))))), (q3, .inl (c3, (8, .inl (fun _ => 0)))), (q4, .inl (c4, (8, .inl (fun _ => 0))))] := hD
  have hK : va_K (dC, dI) xCl [(c1, .long), (c2, .long), (c3, .int), (c4, .boolean)] s := hK
  refine W.widen (k := 4) (n := 32) (by omega) (by omega) ?_
  refine va_putF (D := (dC, dI)) (ci := 1) (v := .ref q4) (ty := .array .boolean) (C := RS) (T := FS) (N := 11) hx hb hts tin2_S tS tS_ok nS hown hK hP hD hS 0 rfl rfl 3 (by decide) (hts _ (tc2 tv_42)) (fun _ h9 => h9) rfl hin rfl (by decide +kernel) rfl rfl (Nat.le_of_ble_eq_true rfl) (by decide +kernel : decode prog_8_method_1_code 33 = .ok (.putfield 20, 3)) (fun H locs hP hD hS => ?_)
  have hP : va_P (dC, dI) xCl [(h0, .inr (1, [.ref q1, .ref q2, .ref q3, .ref q4, .null, .null, .null, .null, .null, .null, .int 0])), (q1, .inl (c1, (8, .inr (.inl (fun _ => 0))))), (q2, .inl (c2, (8, .inr (.inl (fun _ => 0))))), (q3, .inl (c3, (8, .inl (fun _ => 0)))), (q4, .inl (c4, (8, .inl (fun _ => 0))))] H := hP
  have hD : va_D A [(h0, .inr (1, [.ref q1, .ref q2, .ref q3, .ref q4, .null, .null, .null, .null, .null, .null, .int 0])), (q1, .inl (c1, (8, .inr (.inl (fun _ => 0))))), (q2, .inl (c2, (8, .inr (.inl (fun _ => 0))))), (q3, .inl (c3, (8, .inl (fun _ => 0)))), (q4, .inl (c4, (8, .inl (fun _ => 0))))] := hD
  refine lv_aload_n hx hb (by decide +kernel : decode prog_8_method_1_code 36 = .ok (.aload_n 0, 1)) rfl (lv_at hl 0 rfl) ?_
  refine lv_bipush (v := 8) hx hb (by decide +kernel : decode prog_8_method_1_code 37 = .ok (.bipush 8, 2)) (by decide) ?_
  refine va_newa (D := (dC, dI)) (cl := xCl) (atype := .int) (N' := 8) (a0 := (8, .inl (fun _ => 0))) hx hb (hts _ (tc2 tv_88)) rfl hK hP hD hS hA (fun _ => rfl) (by decide) (by decide) (by decide) (by decide : 5 ≤ 10) (by decide : 40 ≤ 304) (by decide +kernel : decode prog_8_method_1_code 39 = .ok (.newarray .int, 2)) (fun q5 c5 H hK hP hD hS => ?_)
  have hP : va_P (dC, dI) xCl [(h0, .inr (1, [.ref q1, .ref q2, .ref q3, .ref q4, .null, .null, .null, .null, .null, .null, .int 0])), (q1, .inl (c1, (8, .inr (.inl (fun _ => 0))))), (q2, .inl (c2, (8, .inr (.inl (fun _ => 0))))), (q3, .inl (c3, (8, .inl (fun _ => 0)))), (q4, .inl (c4, (8, .inl (fun _ => 0)))), (q5, .inl (c5, (8, .inl (fun _ => 0))))] H := hP
  have hD : va_D A [(h0, .inr (1, [.ref q1, .ref q2, .ref q3, .ref q4, .null, .null, .null, .null, .null, .null, .int 0])), (q1, .inl (c1, (8, .inr (.inl (fun _ => 0))))), (q2, .inl (c2, (8, .inr (.inl (fun _ => 0))))), (q3, .inl (c3, (8, .inl (fun _ => 0)))), (q4, .inl (c4, (8, .inl (fun _ => 0)))), (q5, .inl (c5, (8, .inl (fun _ => 0))))] := hD
  have hK : va_K (dC, dI) xCl [(c1, .long), (c2, .long), (c3, .int), (c4, .boolean), (c5, .int)] s := hK
  refine W.widen (k := 5) (n := 40) (by omega) (by omega) ?_
  refine va_putF (D := (dC, dI)) (ci := 1) (v := .ref q5) (ty := .array .int) (C := RS) (T := FS) (N := 11) hx hb hts tin2_S tS tS_ok nS hown hK hP hD hS 0 rfl rfl 4 (by decide) (hts _ (tc2 tv_45)) (fun _ h9 => h9) rfl hin rfl (by decide +kernel) rfl rfl (Nat.le_of_ble_eq_true rfl) (by decide +kernel : decode prog_8_method_1_code 41 = .ok (.putfield 24, 3)) (fun H locs hP hD hS => ?_)
  have hP : va_P (dC, dI) xCl [(h0, .inr (1, [.ref q1, .ref q2, .ref q3, .ref q4, .ref q5, .null, .null, .null, .null, .null, .int 0])), (q1, .inl (c1, (8, .inr (.inl (fun _ => 0))))), (q2, .inl (c2, (8, .inr (.inl (fun _ => 0))))), (q3, .inl (c3, (8, .inl (fun _ => 0)))), (q4, .inl (c4, (8, .inl (fun _ => 0)))), (q5, .inl (c5, (8, .inl (fun _ => 0))))] H := hP
  have hD : va_D A [(h0, .inr (1, [.ref q1, .ref q2, .ref q3, .ref q4, .ref q5, .null, .null, .null, .null, .null, .int 0])), (q1, .inl (c1, (8, .inr (.inl (fun _ => 0))))), (q2, .inl (c2, (8, .inr (.inl (fun _ => 0))))), (q3, .inl (c3, (8, .inl (fun _ => 0)))), (q4, .inl (c4, (8, .inl (fun _ => 0)))), (q5, .inl (c5, (8, .inl (fun _ => 0))))] := hD
  refine lv_aload_n hx hb (by decide +kernel : decode prog_8_method_1_code 44 = .ok (.aload_n 0, 1)) rfl (lv_at hl 0 rfl) ?_
  refine lv_bipush (v := 8) hx hb (by decide +kernel : decode prog_8_method_1_code 45 = .ok (.bipush 8, 2)) (by decide) ?_
  refine va_newa (D := (dC, dI)) (cl := xCl) (atype := .int) (N' := 8) (a0 := (8, .inl (fun _ => 0))) hx hb (hts _ (tc2 tv_88)) rfl hK hP hD hS hA (fun _ => rfl) (by decide) (by decide) (by decide) (by decide : 6 ≤ 10) (by decide : 48 ≤ 304) (by decide +kernel : decode prog_8_method_1_code 47 = .ok (.newarray .int, 2)) (fun q6 c6 H hK hP hD hS => ?_)
  have hP : va_P (dC, dI) xCl [(h0, .inr (1, [.ref q1, .ref q2, .ref q3, .ref q4, .ref q5, .null, .null, .null, .null, .null, .int 0])), (q1, .inl (c1, (8, .inr (.inl (fun _ => 0))))), (q2, .inl (c2, (8, .inr (.inl (fun _ => 0))))), (q3, .inl (c3, (8, .inl (fun _ => 0)))), (q4, .inl (c4, (8, .inl (fun _ => 0)))), (q5, .inl (c5, (8, .inl (fun _ => 0)))), (q6, .inl (c6, (8, .inl (fun _ => 0))))] H := hP
  have hD : va_D A [(h0, .inr (1, [.ref q1, .ref q2, .ref q3, .ref q4, .ref q5, .null, .null, .null, .null, .null, .int 0])), (q1, .inl (c1, (8, .inr (.inl (fun _ => 0))))), (q2, .inl (c2, (8, .inr (.inl (fun _ => 0))))), (q3, .inl (c3, (8, .inl (fun _ => 0)))), (q4, .inl (c4, (8, .inl (fun _ => 0)))), (q5, .inl (c5, (8, .inl (fun _ => 0)))), (q6, .inl (c6, (8, .inl (fun _ => 0))))] := hD
  have hK : va_K (dC, dI) xCl [(c1, .long), (c2, .long), (c3, .int), (c4, .boolean), (c5, .int), (c6, .int)] s := hK
  refine W.widen (k := 6) (n := 48) (by omega) (by omega) ?_
  refine va_putF (D := (dC, dI)) (ci := 1) (v := .ref q6) (ty := .array .int) (C := RS) (T := FS) (N := 11) hx hb hts tin2_S tS tS_ok nS hown hK hP hD hS 0 rfl rfl 5 (by decide) (hts _ (tc2 tv_47)) (fun _ h9 => h9) rfl hin rfl (by decide +kernel) rfl rfl (Nat.le_of_ble_eq_true rfl) (by decide +kernel : decode prog_8_method_1_code 49 = .ok (.putfield 27, 3)) (fun H locs hP hD hS => ?_)
  have hP : va_P (dC, dI) xCl [(h0, .inr (1, [.ref q1, .ref q2, .ref q3, .ref q4, .ref q5, .ref q6, .null, .null, .null, .null, .int 0])), (q1, .inl (c1, (8, .inr (.inl (fun _ => 0))))), (q2, .inl (c2, (8, .inr (.inl (fun _ => 0))))), (q3, .inl (c3, (8, .inl (fun _ => 0)))), (q4, .inl (c4, (8, .inl (fun _ => 0)))), (q5, .inl (c5, (8, .inl (fun _ => 0)))), (q6, .inl (c6, (8, .inl (fun _ => 0))))] H := hP
  have hD : va_D A [(h0, .inr (1, [.ref q1, .ref q2, .ref q3, .ref q4, .ref q5, .ref q6, .null, .null, .null, .null, .int 0])), (q1, .inl (c1, (8, .inr (.inl (fun _ => 0))))), (q2, .inl (c2, (8, .inr (.inl (fun _ => 0))))), (q3, .inl (c3, (8, .inl (fun _ => 0)))), (q4, .inl (c4, (8, .inl (fun _ => 0)))), (q5, .inl (c5, (8, .inl (fun _ => 0)))), (q6, .inl (c6, (8, .inl (fun _ => 0))))] := hD
  refine lv_aload_n hx hb (by decide +kernel : decode prog_8_method_1_code 52 = .ok (.aload_n 0, 1)) rfl (lv_at hl 0 rfl) ?_
  refine lv_bipush (v := 64) hx hb (by decide +kernel : decode prog_8_method_1_code 53 = .ok (.bipush 64, 2)) (by decide) ?_
  refine va_newa (D := (dC, dI)) (cl := xCl) (atype := .long) (N' := 64) (a0 := (64, .inr (.inl (fun _ => 0)))) hx hb (hts _ (tc2 tv_87)) rfl hK hP hD hS hA (fun _ => rfl) (by decide) (by decide) (by decide) (by decide : 7 ≤ 10) (by decide : 112 ≤ 304) (by decide +kernel : decode prog_8_method_1_code 55 = .ok (.newarray .long, 2)) (fun q7 c7 H hK hP hD hS => ?_)
  have hP : va_P (dC, dI) xCl [(h0, .inr (1, [.ref q1, .ref q2, .ref q3, .ref q4, .ref q5, .ref q6, .null, .null, .null, .null, .int 0])), (q1, .inl (c1, (8, .inr (.inl (fun _ => 0))))), (q2, .inl (c2, (8, .inr (.inl (fun _ => 0))))), (q3, .inl (c3, (8, .inl (fun _ => 0)))), (q4, .inl (c4, (8, .inl (fun _ => 0)))), (q5, .inl (c5, (8, .inl (fun _ => 0)))), (q6, .inl (c6, (8, .inl (fun _ => 0)))), (q7, .inl (c7, (64, .inr (.inl (fun _ => 0)))))] H := hP
  have hD : va_D A [(h0, .inr (1, [.ref q1, .ref q2, .ref q3, .ref q4, .ref q5, .ref q6, .null, .null, .null, .null, .int 0])), (q1, .inl (c1, (8, .inr (.inl (fun _ => 0))))), (q2, .inl (c2, (8, .inr (.inl (fun _ => 0))))), (q3, .inl (c3, (8, .inl (fun _ => 0)))), (q4, .inl (c4, (8, .inl (fun _ => 0)))), (q5, .inl (c5, (8, .inl (fun _ => 0)))), (q6, .inl (c6, (8, .inl (fun _ => 0)))), (q7, .inl (c7, (64, .inr (.inl (fun _ => 0)))))] := hD
  have hK : va_K (dC, dI) xCl [(c1, .long), (c2, .long), (c3, .int), (c4, .boolean), (c5, .int), (c6, .int), (c7, .long)] s := hK
  refine W.widen (k := 7) (n := 112) (by omega) (by omega) ?_
  refine va_putF (D := (dC, dI)) (ci := 1) (v := .ref q7) (ty := .array .long) (C := RS) (T := FS) (N := 11) hx hb hts tin2_S tS tS_ok nS hown hK hP hD hS 0 rfl rfl 6 (by decide) (hts _ (tc2 tv_48)) (fun _ h9 => h9) rfl hin rfl (by decide +kernel) rfl rfl (Nat.le_of_ble_eq_true rfl) (by decide +kernel : decode prog_8_method_1_code 57 = .ok (.putfield 30, 3)) (fun H locs hP hD hS => ?_)
  have hP : va_P (dC, dI) xCl [(h0, .inr (1, [.ref q1, .ref q2, .ref q3, .ref q4, .ref q5, .ref q6, .ref q7, .null, .null, .null, .int 0])), (q1, .inl (c1, (8, .inr (.inl (fun _ => 0))))), (q2, .inl (c2, (8, .inr (.inl (fun _ => 0))))), (q3, .inl (c3, (8, .inl (fun _ => 0)))), (q4, .inl (c4, (8, .inl (fun _ => 0)))), (q5, .inl (c5, (8, .inl (fun _ => 0)))), (q6, .inl (c6, (8, .inl (fun _ => 0)))), (q7, .inl (c7, (64, .inr (.inl (fun _ => 0)))))] H := hP
  have hD : va_D A [(h0, .inr (1, [.ref q1, .ref q2, .ref q3, .ref q4, .ref q5, .ref q6, .ref q7, .null, .null, .null, .int 0])), (q1, .inl (c1, (8, .inr (.inl (fun _ => 0))))), (q2, .inl (c2, (8, .inr (.inl (fun _ => 0))))), (q3, .inl (c3, (8, .inl (fun _ => 0)))), (q4, .inl (c4, (8, .inl (fun _ => 0)))), (q5, .inl (c5, (8, .inl (fun _ => 0)))), (q6, .inl (c6, (8, .inl (fun _ => 0)))), (q7, .inl (c7, (64, .inr (.inl (fun _ => 0)))))] := hD
  refine lv_aload_n hx hb (by decide +kernel : decode prog_8_method_1_code 60 = .ok (.aload_n 0, 1)) rfl (lv_at hl 0 rfl) ?_
  refine lv_bipush (v := 64) hx hb (by decide +kernel : decode prog_8_method_1_code 61 = .ok (.bipush 64, 2)) (by decide) ?_
  refine va_newa (D := (dC, dI)) (cl := xCl) (atype := .long) (N' := 64) (a0 := (64, .inr (.inl (fun _ => 0)))) hx hb (hts _ (tc2 tv_87)) rfl hK hP hD hS hA (fun _ => rfl) (by decide) (by decide) (by decide) (by decide : 8 ≤ 10) (by decide : 176 ≤ 304) (by decide +kernel : decode prog_8_method_1_code 63 = .ok (.newarray .long, 2)) (fun q8 c8 H hK hP hD hS => ?_)
  have hP : va_P (dC, dI) xCl [(h0, .inr (1, [.ref q1, .ref q2, .ref q3, .ref q4, .ref q5, .ref q6, .ref q7, .null, .null, .null, .int 0])), (q1, .inl (c1, (8, .inr (.inl (fun _ => 0))))), (q2, .inl (c2, (8, .inr (.inl (fun _ => 0))))), (q3, .inl (c3, (8, .inl (fun _ => 0)))), (q4, .inl (c4, (8, .inl (fun _ => 0)))), (q5, .inl (c5, (8, .inl (fun _ => 0)))), (q6, .inl (c6, (8, .inl (fun _ => 0)))), (q7, .inl (c7, (64, .inr (.inl (fun _ => 0))))), (q8, .inl (c8, (64, .inr (.inl (fun _ => 0)))))] H := hP
  have hD : va_D A [(h0, .inr (1, [.ref q1, .ref q2, .ref q3, .ref q4, .ref q5, .ref q6, .ref q7, .null, .null, .null, .int 0])), (q1, .inl (c1, (8, .inr (.inl (fun _ => 0))))), (q2, .inl (c2, (8, .inr (.inl (fun _ => 0))))), (q3, .inl (c3, (8, .inl (fun _ => 0)))), (q4, .inl (c4, (8, .inl (fun _ => 0)))), (q5, .inl (c5, (8, .inl (fun _ => 0)))), (q6, .inl (c6, (8, .inl (fun _ => 0)))), (q7, .inl (c7, (64, .inr (.inl (fun _ => 0))))), (q8, .inl (c8, (64, .inr (.inl (fun _ => 0)))))] := hD
  have hK : va_K (dC, dI) xCl [(c1, .long), (c2, .long), (c3, .int), (c4, .boolean), (c5, .int), (c6, .int), (c7, .long), (c8, .long)] s := hK
  refine W.widen (k := 8) (n := 176) (by omega) (by omega) ?_
  refine va_putF (D := (dC, dI)) (ci := 1) (v := .ref q8) (ty := .array .long) (C := RS) (T := FS) (N := 11) hx hb hts tin2_S tS tS_ok nS hown hK hP hD hS 0 rfl rfl 7 (by decide) (hts _ (tc2 tv_52)) (fun _ h9 => h9) rfl hin rfl (by decide +kernel) rfl rfl (Nat.le_of_ble_eq_true rfl) (by decide +kernel : decode prog_8_method_1_code 65 = .ok (.putfield 33, 3)) (fun H locs hP hD hS => ?_)
  have hP : va_P (dC, dI) xCl [(h0, .inr (1, [.ref q1, .ref q2, .ref q3, .ref q4, .ref q5, .ref q6, .ref q7, .ref q8, .null, .null, .int 0])), (q1, .inl (c1, (8, .inr (.inl (fun _ => 0))))), (q2, .inl (c2, (8, .inr (.inl (fun _ => 0))))), (q3, .inl (c3, (8, .inl (fun _ => 0)))), (q4, .inl (c4, (8, .inl (fun _ => 0)))), (q5, .inl (c5, (8, .inl (fun _ => 0)))), (q6, .inl (c6, (8, .inl (fun _ => 0)))), (q7, .inl (c7, (64, .inr (.inl (fun _ => 0))))), (q8, .inl (c8, (64, .inr (.inl (fun _ => 0)))))] H := hP
  have hD : va_D A [(h0, .inr (1, [.ref q1, .ref q2, .ref q3, .ref q4, .ref q5, .ref q6, .ref q7, .ref q8, .null, .null, .int 0])), (q1, .inl (c1, (8, .inr (.inl (fun _ => 0))))), (q2, .inl (c2, (8, .inr (.inl (fun _ => 0))))), (q3, .inl (c3, (8, .inl (fun _ => 0)))), (q4, .inl (c4, (8, .inl (fun _ => 0)))), (q5, .inl (c5, (8, .inl (fun _ => 0)))), (q6, .inl (c6, (8, .inl (fun _ => 0)))), (q7, .inl (c7, (64, .inr (.inl (fun _ => 0))))), (q8, .inl (c8, (64, .inr (.inl (fun _ => 0)))))] := hD
  refine lv_aload_n hx hb (by decide +kernel : decode prog_8_method_1_code 68 = .ok (.aload_n 0, 1)) rfl (lv_at hl 0 rfl) ?_
  refine lv_bipush (v := 64) hx hb (by decide +kernel : decode prog_8_method_1_code 69 = .ok (.bipush 64, 2)) (by decide) ?_
  refine va_newa (D := (dC, dI)) (cl := xCl) (atype := .long) (N' := 64) (a0 := (64, .inr (.inl (fun _ => 0)))) hx hb (hts _ (tc2 tv_87)) rfl hK hP hD hS hA (fun _ => rfl) (by decide) (by decide) (by decide) (by decide : 9 ≤ 10) (by decide : 240 ≤ 304) (by decide +kernel : decode prog_8_method_1_code 71 = .ok (.newarray .long, 2)) (fun q9 c9 H hK hP hD hS => ?_)
  have hP : va_P (dC, dI) xCl [(h0, .inr (1, [.ref q1, .ref q2, .ref q3, .ref q4, .ref q5, .ref q6, .ref q7, .ref q8, .null, .null, .int 0])), (q1, .inl (c1, (8, .inr (.inl (fun _ => 0))))), (q2, .inl (c2, (8, .inr (.inl (fun _ => 0))))), (q3, .inl (c3, (8, .inl (fun _ => 0)))), (q4, .inl (c4, (8, .inl (fun _ => 0)))), (q5, .inl (c5, (8, .inl (fun _ => 0)))), (q6, .inl (c6, (8, .inl (fun _ => 0)))), (q7, .inl (c7, (64, .inr (.inl (fun _ => 0))))), (q8, .inl (c8, (64, .inr (.inl (fun _ => 0))))), (q9, .inl (c9, (64, .inr (.inl (fun _ => 0)))))] H := hP
  have hD : va_D A [(h0, .inr (1, [.ref q1, .ref q2, .ref q3, .ref q4, .ref q5, .ref q6, .ref q7, .ref q8, .null, .null, .int 0])), (q1, .inl (c1, (8, .inr (.inl (fun _ => 0))))), (q2, .inl (c2, (8, .inr (.inl (fun _ => 0))))), (q3, .inl (c3, (8, .inl (fun _ => 0)))), (q4, .inl (c4, (8, .inl (fun _ => 0)))), (q5, .inl (c5, (8, .inl (fun _ => 0)))), (q6, .inl (c6, (8, .inl (fun _ => 0)))), (q7, .inl (c7, (64, .inr (.inl (fun _ => 0))))), (q8, .inl (c8, (64, .inr (.inl (fun _ => 0))))), (q9, .inl (c9, (64, .inr (.inl (fun _ => 0)))))] := hD
  have hK : va_K (dC, dI) xCl [(c1, .long), (c2, .long), (c3, .int), (c4, .boolean), (c5, .int), (c6, .int), (c7, .long), (c8, .long), (c9, .long)] s := hK
  refine W.widen (k := 9) (n := 240) (by omega) (by omega) ?_
  refine va_putF (D := (dC, dI)) (ci := 1) (v := .ref q9) (ty := .array .long) (C := RS) (T := FS) (N := 11) hx hb hts tin2_S tS tS_ok nS hown hK hP hD hS 0 rfl rfl 8 (by decide) (hts _ (tc2 tv_55)) (fun _ h9 => h9) rfl hin rfl (by decide +kernel) rfl rfl (Nat.le_of_ble_eq_true rfl) (by decide +kernel : decode prog_8_method_1_code 73 = .ok (.putfield 36, 3)) (fun H locs hP hD hS => ?_)
  have hP : va_P (dC, dI) xCl [(h0, .inr (1, [.ref q1, .ref q2, .ref q3, .ref q4, .ref q5, .ref q6, .ref q7, .ref q8, .ref q9, .null, .int 0])), (q1, .inl (c1, (8, .inr (.inl (fun _ => 0))))), (q2, .inl (c2, (8, .inr (.inl (fun _ => 0))))), (q3, .inl (c3, (8, .inl (fun _ => 0)))), (q4, .inl (c4, (8, .inl (fun _ => 0)))), (q5, .inl (c5, (8, .inl (fun _ => 0)))), (q6, .inl (c6, (8, .inl (fun _ => 0)))), (q7, .inl (c7, (64, .inr (.inl (fun _ => 0))))), (q8, .inl (c8, (64, .inr (.inl (fun _ => 0))))), (q9, .inl (c9, (64, .inr (.inl (fun _ => 0)))))] H := hP
  have hD : va_D A [(h0, .inr (1, [.ref q1, .ref q2, .ref q3, .ref q4, .ref q5, .ref q6, .ref q7, .ref q8, .ref q9, .null, .int 0])), (q1, .inl (c1, (8, .inr (.inl (fun _ => 0))))), (q2, .inl (c2, (8, .inr (.inl (fun _ => 0))))), (q3, .inl (c3, (8, .inl (fun _ => 0)))), (q4, .inl (c4, (8, .inl (fun _ => 0)))), (q5, .inl (c5, (8, .inl (fun _ => 0)))), (q6, .inl (c6, (8, .inl (fun _ => 0)))), (q7, .inl (c7, (64, .inr (.inl (fun _ => 0))))), (q8, .inl (c8, (64, .inr (.inl (fun _ => 0))))), (q9, .inl (c9, (64, .inr (.inl (fun _ => 0)))))] := hD
  refine lv_aload_n hx hb (by decide +kernel : decode prog_8_method_1_code 76 = .ok (.aload_n 0, 1)) rfl (lv_at hl 0 rfl) ?_
  refine lv_bipush (v := 64) hx hb (by decide +kernel : decode prog_8_method_1_code 77 = .ok (.bipush 64, 2)) (by decide) ?_
  refine va_newa (D := (dC, dI)) (cl := xCl) (atype := .boolean) (N' := 64) (a0 := (64, .inl (fun _ => 0))) hx hb (hts _ (tc2 tv_89)) rfl hK hP hD hS hA (fun _ => rfl) (by decide) (by decide) (by decide) (by decide : 10 ≤ 10) (by decide : 304 ≤ 304) (by decide +kernel : decode prog_8_method_1_code 79 = .ok (.newarray .boolean, 2)) (fun q10 c10 H hK hP hD hS => ?_)
  have hP : va_P (dC, dI) xCl [(h0, .inr (1, [.ref q1, .ref q2, .ref q3, .ref q4, .ref q5, .ref q6, .ref q7, .ref q8, .ref q9, .null, .int 0])), (q1, .inl (c1, (8, .inr (.inl (fun _ => 0))))), (q2, .inl (c2, (8, .inr (.inl (fun _ => 0))))), (q3, .inl (c3, (8, .inl (fun _ => 0)))), (q4, .inl (c4, (8, .inl (fun _ => 0)))), (q5, .inl (c5, (8, .inl (fun _ => 0)))), (q6, .inl (c6, (8, .inl (fun _ => 0)))), (q7, .inl (c7, (64, .inr (.inl (fun _ => 0))))), (q8, .inl (c8, (64, .inr (.inl (fun _ => 0))))), (q9, .inl (c9, (64, .inr (.inl (fun _ => 0))))), (q10, .inl (c10, (64, .inl (fun _ => 0))))] H := hP
  have hD : va_D A [(h0, .inr (1, [.ref q1, .ref q2, .ref q3, .ref q4, .ref q5, .ref q6, .ref q7, .ref q8, .ref q9, .null, .int 0])), (q1, .inl (c1, (8, .inr (.inl (fun _ => 0))))), (q2, .inl (c2, (8, .inr (.inl (fun _ => 0))))), (q3, .inl (c3, (8, .inl (fun _ => 0)))), (q4, .inl (c4, (8, .inl (fun _ => 0)))), (q5, .inl (c5, (8, .inl (fun _ => 0)))), (q6, .inl (c6, (8, .inl (fun _ => 0)))), (q7, .inl (c7, (64, .inr (.inl (fun _ => 0))))), (q8, .inl (c8, (64, .inr (.inl (fun _ => 0))))), (q9, .inl (c9, (64, .inr (.inl (fun _ => 0))))), (q10, .inl (c10, (64, .inl (fun _ => 0))))] := hD
  have hK : va_K (dC, dI) xCl [(c1, .long), (c2, .long), (c3, .int), (c4, .boolean), (c5, .int), (c6, .int), (c7, .long), (c8, .long), (c9, .long), (c10, .boolean)] s := hK
  refine W.widen (k := 10) (n := 304) (by omega) (by omega) ?_
  refine va_putF (D := (dC, dI)) (ci := 1) (v := .ref q10) (ty := .array .boolean) (C := RS) (T := FS) (N := 11) hx hb hts tin2_S tS tS_ok nS hown hK hP hD hS 0 rfl rfl 9 (by decide) (hts _ (tc2 tv_58)) (fun _ h9 => h9) rfl hin rfl (by decide +kernel) rfl rfl (Nat.le_of_ble_eq_true rfl) (by decide +kernel : decode prog_8_method_1_code 81 = .ok (.putfield 39, 3)) (fun H locs hP hD hS => ?_)
  have hP : va_P (dC, dI) xCl [(h0, .inr (1, [.ref q1, .ref q2, .ref q3, .ref q4, .ref q5, .ref q6, .ref q7, .ref q8, .ref q9, .ref q10, .int 0])), (q1, .inl (c1, (8, .inr (.inl (fun _ => 0))))), (q2, .inl (c2, (8, .inr (.inl (fun _ => 0))))), (q3, .inl (c3, (8, .inl (fun _ => 0)))), (q4, .inl (c4, (8, .inl (fun _ => 0)))), (q5, .inl (c5, (8, .inl (fun _ => 0)))), (q6, .inl (c6, (8, .inl (fun _ => 0)))), (q7, .inl (c7, (64, .inr (.inl (fun _ => 0))))), (q8, .inl (c8, (64, .inr (.inl (fun _ => 0))))), (q9, .inl (c9, (64, .inr (.inl (fun _ => 0))))), (q10, .inl (c10, (64, .inl (fun _ => 0))))] H := hP
  have hD : va_D A [(h0, .inr (1, [.ref q1, .ref q2, .ref q3, .ref q4, .ref q5, .ref q6, .ref q7, .ref q8, .ref q9, .ref q10, .int 0])), (q1, .inl (c1, (8, .inr (.inl (fun _ => 0))))), (q2, .inl (c2, (8, .inr (.inl (fun _ => 0))))), (q3, .inl (c3, (8, .inl (fun _ => 0)))), (q4, .inl (c4, (8, .inl (fun _ => 0)))), (q5, .inl (c5, (8, .inl (fun _ => 0)))), (q6, .inl (c6, (8, .inl (fun _ => 0)))), (q7, .inl (c7, (64, .inr (.inl (fun _ => 0))))), (q8, .inl (c8, (64, .inr (.inl (fun _ => 0))))), (q9, .inl (c9, (64, .inr (.inl (fun _ => 0))))), (q10, .inl (c10, (64, .inl (fun _ => 0))))] := hD
  refine lv_aload_n hx hb (by decide +kernel : decode prog_8_method_1_code 84 = .ok (.aload_n 0, 1)) rfl (lv_at hl 0 rfl) ?_
  refine lv_iconst (v := 0) hx hb (by decide +kernel : decode prog_8_method_1_code 85 = .ok (.iconst 0, 1)) (by decide) ?_
  refine va_put (D := (dC, dI)) (ci := 1) (v := .int 0) (ty := .int) (C := RS) (T := FS) (N := 11) hx hb hts tin2_S tS tS_ok nS hown hK hP hD hS 0 rfl rfl 10 (by decide) (hts _ (tc2 tv_60)) (fun _ h9 => h9) rfl (by decide +kernel) rfl rfl (Nat.le_of_ble_eq_true rfl) (by decide +kernel : decode prog_8_method_1_code 86 = .ok (.putfield 42, 3)) (fun H locs hP hD hS => ?_)
  have hP : va_P (dC, dI) xCl [(h0, .inr (1, [.ref q1, .ref q2, .ref q3, .ref q4, .ref q5, .ref q6, .ref q7, .ref q8, .ref q9, .ref q10, .int 0])), (q1, .inl (c1, (8, .inr (.inl (fun _ => 0))))), (q2, .inl (c2, (8, .inr (.inl (fun _ => 0))))), (q3, .inl (c3, (8, .inl (fun _ => 0)))), (q4, .inl (c4, (8, .inl (fun _ => 0)))), (q5, .inl (c5, (8, .inl (fun _ => 0)))), (q6, .inl (c6, (8, .inl (fun _ => 0)))), (q7, .inl (c7, (64, .inr (.inl (fun _ => 0))))), (q8, .inl (c8, (64, .inr (.inl (fun _ => 0))))), (q9, .inl (c9, (64, .inr (.inl (fun _ => 0))))), (q10, .inl (c10, (64, .inl (fun _ => 0))))] H := hP
  have hD : va_D A [(h0, .inr (1, [.ref q1, .ref q2, .ref q3, .ref q4, .ref q5, .ref q6, .ref q7, .ref q8, .ref q9, .ref q10, .int 0])), (q1, .inl (c1, (8, .inr (.inl (fun _ => 0))))), (q2, .inl (c2, (8, .inr (.inl (fun _ => 0))))), (q3, .inl (c3, (8, .inl (fun _ => 0)))), (q4, .inl (c4, (8, .inl (fun _ => 0)))), (q5, .inl (c5, (8, .inl (fun _ => 0)))), (q6, .inl (c6, (8, .inl (fun _ => 0)))), (q7, .inl (c7, (64, .inr (.inl (fun _ => 0))))), (q8, .inl (c8, (64, .inr (.inl (fun _ => 0))))), (q9, .inl (c9, (64, .inr (.inl (fun _ => 0))))), (q10, .inl (c10, (64, .inl (fun _ => 0))))] := hD
  exact W.vret hx hb hr (fun t ht hW => ⟨⟨(), rfl, trivial, q1, c1, q2, c2, q3, c3, q4, c4, q5, c5, q6, c6, q7, c7, q8, c8, q9, c9, q10, c10, by rw [ht]; exact hP, va_K.moved hW.alike hK, hD⟩, hS.F ht⟩) hS.2.2 (by decide +kernel : decode prog_8_method_1_code 89 = .ok (.return_, 1))
end
section
abbrev at_B_init (dC : Nat → ClassId) (dI : Nat → Nat → Nat) (A : Nat → Prop) (h0 : Nat) (_ : Unit) (t : State) : Prop := ∃ (q1 : Nat) (c1 : ClassId), va_P (dC, dI) xCl [(h0, .inr (2, [.ref q1, .int 0])), (q1, .inl (c1, (512, .inl (fun _ => 0))))] t.heap ∧ va_K (dC, dI) xCl [(c1, .int)] t ∧ va_D A [(h0, .inr (2, [.ref q1, .int 0])), (q1, .inl (c1, (512, .inl (fun _ => 0))))]
abbrev y_B_init : MethodName := ⟨"NameMover$ByteRow", "<init>", "()V"⟩
abbrev ws_B_init : List Cond := Cond.code y_B_init prog_2_method_1_code 1 none :: xt2
set_option maxHeartbeats 1000000 in
set_option maxRecDepth 100000 in
theorem c_B_init (l : Launch) (dC : Nat → ClassId) (dI : Nat → Nat → Nat) (h0 sz : Nat) : Met l y_B_init ws_B_init ({ frames := 1, cells := 1, slots := 512, locals := 12 }) (va_Pc [.ref h0] (fun U => U.heap.size = sz ∧ va_P (dC, dI) xCl [(h0, .inr (2, [.null, .int 0]))] U.heap ∧ va_K (dC, dI) xCl [] U ∧ va_D (fun _ => True) [(h0, .inr (2, [.null, .int 0]))])) (va_Qv (fun _ : Unit => True) (at_B_init dC dI (va_A [(h0, .inr (2, [.null, .int 0]))] sz) h0) (va_A [(h0, .inr (2, [.null, .int 0]))] sz)) 1 512 (va_A [(h0, .inr (2, [.null, .int 0]))] sz) := by
  refine Met.ofW (cc := prog_2_method_1_code) (maxL := 1) (ret := none) (by decide) rfl ?_
  intro p e s m args below meth c s₁ B hml hv
  obtain ⟨rfl, hsz, hP, hK, hD0⟩ := hv
  have hx := B.exec
  have hb := B.bytes
  have hr := B.returns
  have hts := atoms_spec (ws := ws_B_init) B.pre
  have hown : s.vm.findClass "NameMover$ByteRow" = some m.cls := findClass_of_methodNamed B.named
  have hlocks := B.notSynchronized
  have hin : meth.name = "<init>" := (name_of_methodNamed B.named B.method).1
  subst hsz
  have hD := hD0.self (sz := s.heap.size)
  generalize hAe : va_A [(h0, .inr (2, [.null, .int 0]))] s.heap.size = A at hD ⊢
  have hA : ∀ q : Nat, s.heap.size ≤ q → A q := fun q h => by rw [← hAe]; exact Or.inr h
  have hS : va_S A s.heap s.heap [] := va_S.rf
  have hl := lv_entry ([.ref h0]) (n := 1) (Nat.le_of_ble_eq_true rfl)
  rw [lg_entry_eq]
  generalize (lg_sl ([.ref h0]) ++ List.replicate (1 - (lg_sl ([.ref h0])).length) Slot.unset).toArray = ls at hl ⊢
  have hl : lv_has ls 1 [(0, .ref h0)] := hl
  refine lv_aload_n hx hb (by decide +kernel : decode prog_2_method_1_code 0 = .ok (.aload_n 0, 1)) rfl (lv_at hl 0 rfl) ?_
  refine W.objInit hx hb hown (hts _ (tc2 tv_95)) (hts _ (tc2 tv_25)) (hts _ (tc2 tv_26)) rfl (by rw [hml]; exact hl.1) rfl (by decide +kernel : decode prog_2_method_1_code 1 = .ok (.invokespecial 1, 3)) (Nat.le_of_ble_eq_true rfl) (Nat.le_of_ble_eq_true rfl) ?_
  refine W.eq (g2 := F0 m 4 ls []) rfl ?_
  refine lv_aload_n hx hb (by decide +kernel : decode prog_2_method_1_code 4 = .ok (.aload_n 0, 1)) rfl (lv_at hl 0 rfl) ?_
  refine lv_sipush (v := 512) hx hb (by decide +kernel : decode prog_2_method_1_code 5 = .ok (.sipush 512, 3)) (by decide) ?_
  refine va_newa (D := (dC, dI)) (cl := xCl) (atype := .int) (N' := 512) (a0 := (512, .inl (fun _ => 0))) hx hb (hts _ (tc2 tv_88)) rfl hK hP hD hS hA (fun _ => rfl) (by decide) (by decide) (by decide) (by decide : 1 ≤ 1) (by decide : 512 ≤ 512) (by decide +kernel : decode prog_2_method_1_code 8 = .ok (.newarray .int, 2)) (fun q1 c1 H hK hP hD hS => ?_)
  have hP : va_P (dC, dI) xCl [(h0, .inr (2, [.null, .int 0])), (q1, .inl (c1, (512, .inl (fun _ => 0))))] H := hP
  have hD : va_D A [(h0, .inr (2, [.null, .int 0])), (q1, .inl (c1, (512, .inl (fun _ => 0))))] := hD
  have hK : va_K (dC, dI) xCl [(c1, .int)] s := hK
  refine W.widen (k := 1) (n := 512) (by omega) (by omega) ?_
  refine va_putF (D := (dC, dI)) (ci := 2) (v := .ref q1) (ty := .array .int) (C := RB) (T := FB) (N := 2) hx hb hts tin2_B tB tB_ok nB hown hK hP hD hS 0 rfl rfl 0 (by decide) (hts _ (tc2 tv_96)) (fun _ h9 => h9) rfl hin rfl (by decide +kernel) rfl rfl (Nat.le_of_ble_eq_true rfl) (by decide +kernel : decode prog_2_method_1_code 10 = .ok (.putfield 9, 3)) (fun H locs hP hD hS => ?_)
  have hP : va_P (dC, dI) xCl [(h0, .inr (2, [.ref q1, .int 0])), (q1, .inl (c1, (512, .inl (fun _ => 0))))] H := hP
  have hD : va_D A [(h0, .inr (2, [.ref q1, .int 0])), (q1, .inl (c1, (512, .inl (fun _ => 0))))] := hD
  refine lv_aload_n hx hb (by decide +kernel : decode prog_2_method_1_code 13 = .ok (.aload_n 0, 1)) rfl (lv_at hl 0 rfl) ?_
  refine lv_iconst (v := 0) hx hb (by decide +kernel : decode prog_2_method_1_code 14 = .ok (.iconst 0, 1)) (by decide) ?_
  refine va_put (D := (dC, dI)) (ci := 2) (v := .int 0) (ty := .int) (C := RB) (T := FB) (N := 2) hx hb hts tin2_B tB tB_ok nB hown hK hP hD hS 0 rfl rfl 1 (by decide) (hts _ (tc2 tv_97)) (fun _ h9 => h9) rfl (by decide +kernel) rfl rfl (Nat.le_of_ble_eq_true rfl) (by decide +kernel : decode prog_2_method_1_code 15 = .ok (.putfield 13, 3)) (fun H locs hP hD hS => ?_)
  have hP : va_P (dC, dI) xCl [(h0, .inr (2, [.ref q1, .int 0])), (q1, .inl (c1, (512, .inl (fun _ => 0))))] H := hP
  have hD : va_D A [(h0, .inr (2, [.ref q1, .int 0])), (q1, .inl (c1, (512, .inl (fun _ => 0))))] := hD
  exact W.vret hx hb hr (fun t ht hW => ⟨⟨(), rfl, trivial, q1, c1, by rw [ht]; exact hP, va_K.moved hW.alike hK, hD⟩, hS.F ht⟩) hS.2.2 (by decide +kernel : decode prog_2_method_1_code 18 = .ok (.return_, 1))
end
section
abbrev at_W_init (dC : Nat → ClassId) (dI : Nat → Nat → Nat) (A : Nat → Prop) (h0 : Nat) (a1 : Nat) (a2 : Nat) (_ : Unit) (t : State) : Prop := ∃ (q1 : Nat) (c1 : ClassId), ∃ (q2 : Nat) (c2 : ClassId), va_P (dC, dI) xCl [(h0, .inr (3, [.ref a1, .ref a2, .ref q1, .int 0, .ref q2, .int 0])), (q1, .inl (c1, (22, .inl (fun _ => 0)))), (q2, .inl (c2, (15, .inl (fun _ => 0))))] t.heap ∧ va_K (dC, dI) xCl [(c1, .int), (c2, .int)] t ∧ va_D A [(h0, .inr (3, [.ref a1, .ref a2, .ref q1, .int 0, .ref q2, .int 0])), (q1, .inl (c1, (22, .inl (fun _ => 0)))), (q2, .inl (c2, (15, .inl (fun _ => 0))))]
abbrev y_W_init : MethodName := ⟨"NameMover$ClassWriter", "<init>", "(LNameMover$Store;LNameMover$ByteRow;)V"⟩
abbrev ws_W_init : List Cond := Cond.code y_W_init prog_4_method_1_code 3 none :: xt2
set_option maxHeartbeats 1000000 in
set_option maxRecDepth 100000 in
theorem c_W_init (l : Launch) (dC : Nat → ClassId) (dI : Nat → Nat → Nat) (h0 sz : Nat) (a1 : Nat) (a2 : Nat) : Met l y_W_init ws_W_init ({ frames := 1, cells := 2, slots := 37, locals := 12 }) (va_Pc [.ref h0, .ref a1, .ref a2] (fun U => U.heap.size = sz ∧ va_P (dC, dI) xCl [(h0, .inr (3, [.null, .null, .null, .int 0, .null, .int 0]))] U.heap ∧ va_K (dC, dI) xCl [] U ∧ va_D (fun _ => True) [(h0, .inr (3, [.null, .null, .null, .int 0, .null, .int 0]))])) (va_Qv (fun _ : Unit => True) (at_W_init dC dI (va_A [(h0, .inr (3, [.null, .null, .null, .int 0, .null, .int 0]))] sz) h0 a1 a2) (va_A [(h0, .inr (3, [.null, .null, .null, .int 0, .null, .int 0]))] sz)) 2 37 (va_A [(h0, .inr (3, [.null, .null, .null, .int 0, .null, .int 0]))] sz) := by
  refine Met.ofW (cc := prog_4_method_1_code) (maxL := 3) (ret := none) (by decide) rfl ?_
  intro p e s m args below meth c s₁ B hml hv
  obtain ⟨rfl, hsz, hP, hK, hD0⟩ := hv
  have hx := B.exec
  have hb := B.bytes
  have hr := B.returns
  have hts := atoms_spec (ws := ws_W_init) B.pre
  have hown : s.vm.findClass "NameMover$ClassWriter" = some m.cls := findClass_of_methodNamed B.named
  have hlocks := B.notSynchronized
  have hin : meth.name = "<init>" := (name_of_methodNamed B.named B.method).1
  subst hsz
  have hD := hD0.self (sz := s.heap.size)
  generalize hAe : va_A [(h0, .inr (3, [.null, .null, .null, .int 0, .null, .int 0]))] s.heap.size = A at hD ⊢
  have hA : ∀ q : Nat, s.heap.size ≤ q → A q := fun q h => by rw [← hAe]; exact Or.inr h
  have hS : va_S A s.heap s.heap [] := va_S.rf
  have hl := lv_entry ([.ref h0, .ref a1, .ref a2]) (n := 3) (Nat.le_of_ble_eq_true rfl)
  rw [lg_entry_eq]
  generalize (lg_sl ([.ref h0, .ref a1, .ref a2]) ++ List.replicate (3 - (lg_sl ([.ref h0, .ref a1, .ref a2])).length) Slot.unset).toArray = ls at hl ⊢
  have hl : lv_has ls 3 [(0, .ref h0), (1, .ref a1), (2, .ref a2)] := hl
  refine lv_aload_n hx hb (by decide +kernel : decode prog_4_method_1_code 0 = .ok (.aload_n 0, 1)) rfl (lv_at hl 0 rfl) ?_
  refine W.objInit hx hb hown (hts _ (tc2 tv_108)) (hts _ (tc2 tv_25)) (hts _ (tc2 tv_26)) rfl (by rw [hml]; exact hl.1) rfl (by decide +kernel : decode prog_4_method_1_code 1 = .ok (.invokespecial 1, 3)) (Nat.le_of_ble_eq_true rfl) (Nat.le_of_ble_eq_true rfl) ?_
  refine W.eq (g2 := F0 m 4 ls []) rfl ?_
  refine lv_aload_n hx hb (by decide +kernel : decode prog_4_method_1_code 4 = .ok (.aload_n 0, 1)) rfl (lv_at hl 0 rfl) ?_
  refine lv_bipush (v := 22) hx hb (by decide +kernel : decode prog_4_method_1_code 5 = .ok (.bipush 22, 2)) (by decide) ?_
  refine va_newa (D := (dC, dI)) (cl := xCl) (atype := .int) (N' := 22) (a0 := (22, .inl (fun _ => 0))) hx hb (hts _ (tc2 tv_88)) rfl hK hP hD hS hA (fun _ => rfl) (by decide) (by decide) (by decide) (by decide : 1 ≤ 2) (by decide : 22 ≤ 37) (by decide +kernel : decode prog_4_method_1_code 7 = .ok (.newarray .int, 2)) (fun q1 c1 H hK hP hD hS => ?_)
  have hP : va_P (dC, dI) xCl [(h0, .inr (3, [.null, .null, .null, .int 0, .null, .int 0])), (q1, .inl (c1, (22, .inl (fun _ => 0))))] H := hP
  have hD : va_D A [(h0, .inr (3, [.null, .null, .null, .int 0, .null, .int 0])), (q1, .inl (c1, (22, .inl (fun _ => 0))))] := hD
  have hK : va_K (dC, dI) xCl [(c1, .int)] s := hK
  refine W.widen (k := 1) (n := 22) (by omega) (by omega) ?_
  refine va_putF (D := (dC, dI)) (ci := 3) (v := .ref q1) (ty := .array .int) (C := RW) (T := FW) (N := 6) hx hb hts tin2_W tW tW_ok nW hown hK hP hD hS 0 rfl rfl 2 (by decide) (hts _ (tc2 tv_111)) (fun _ h9 => h9) rfl hin rfl (by decide +kernel) rfl rfl (Nat.le_of_ble_eq_true rfl) (by decide +kernel : decode prog_4_method_1_code 9 = .ok (.putfield 9, 3)) (fun H locs hP hD hS => ?_)
  have hP : va_P (dC, dI) xCl [(h0, .inr (3, [.null, .null, .ref q1, .int 0, .null, .int 0])), (q1, .inl (c1, (22, .inl (fun _ => 0))))] H := hP
  have hD : va_D A [(h0, .inr (3, [.null, .null, .ref q1, .int 0, .null, .int 0])), (q1, .inl (c1, (22, .inl (fun _ => 0))))] := hD
  refine lv_aload_n hx hb (by decide +kernel : decode prog_4_method_1_code 12 = .ok (.aload_n 0, 1)) rfl (lv_at hl 0 rfl) ?_
  refine lv_iconst (v := 0) hx hb (by decide +kernel : decode prog_4_method_1_code 13 = .ok (.iconst 0, 1)) (by decide) ?_
  refine va_put (D := (dC, dI)) (ci := 3) (v := .int 0) (ty := .int) (C := RW) (T := FW) (N := 6) hx hb hts tin2_W tW tW_ok nW hown hK hP hD hS 0 rfl rfl 3 (by decide) (hts _ (tc2 tv_112)) (fun _ h9 => h9) rfl (by decide +kernel) rfl rfl (Nat.le_of_ble_eq_true rfl) (by decide +kernel : decode prog_4_method_1_code 14 = .ok (.putfield 15, 3)) (fun H locs hP hD hS => ?_)
  have hP : va_P (dC, dI) xCl [(h0, .inr (3, [.null, .null, .ref q1, .int 0, .null, .int 0])), (q1, .inl (c1, (22, .inl (fun _ => 0))))] H := hP
  have hD : va_D A [(h0, .inr (3, [.null, .null, .ref q1, .int 0, .null, .int 0])), (q1, .inl (c1, (22, .inl (fun _ => 0))))] := hD
  refine lv_aload_n hx hb (by decide +kernel : decode prog_4_method_1_code 17 = .ok (.aload_n 0, 1)) rfl (lv_at hl 0 rfl) ?_
  refine lv_bipush (v := 15) hx hb (by decide +kernel : decode prog_4_method_1_code 18 = .ok (.bipush 15, 2)) (by decide) ?_
  refine va_newa (D := (dC, dI)) (cl := xCl) (atype := .int) (N' := 15) (a0 := (15, .inl (fun _ => 0))) hx hb (hts _ (tc2 tv_88)) rfl hK hP hD hS hA (fun _ => rfl) (by decide) (by decide) (by decide) (by decide : 2 ≤ 2) (by decide : 37 ≤ 37) (by decide +kernel : decode prog_4_method_1_code 20 = .ok (.newarray .int, 2)) (fun q2 c2 H hK hP hD hS => ?_)
  have hP : va_P (dC, dI) xCl [(h0, .inr (3, [.null, .null, .ref q1, .int 0, .null, .int 0])), (q1, .inl (c1, (22, .inl (fun _ => 0)))), (q2, .inl (c2, (15, .inl (fun _ => 0))))] H := hP
  have hD : va_D A [(h0, .inr (3, [.null, .null, .ref q1, .int 0, .null, .int 0])), (q1, .inl (c1, (22, .inl (fun _ => 0)))), (q2, .inl (c2, (15, .inl (fun _ => 0))))] := hD
  have hK : va_K (dC, dI) xCl [(c1, .int), (c2, .int)] s := hK
  refine W.widen (k := 2) (n := 37) (by omega) (by omega) ?_
  refine va_putF (D := (dC, dI)) (ci := 3) (v := .ref q2) (ty := .array .int) (C := RW) (T := FW) (N := 6) hx hb hts tin2_W tW tW_ok nW hown hK hP hD hS 0 rfl rfl 4 (by decide) (hts _ (tc2 tv_113)) (fun _ h9 => h9) rfl hin rfl (by decide +kernel) rfl rfl (Nat.le_of_ble_eq_true rfl) (by decide +kernel : decode prog_4_method_1_code 22 = .ok (.putfield 19, 3)) (fun H locs hP hD hS => ?_)
  have hP : va_P (dC, dI) xCl [(h0, .inr (3, [.null, .null, .ref q1, .int 0, .ref q2, .int 0])), (q1, .inl (c1, (22, .inl (fun _ => 0)))), (q2, .inl (c2, (15, .inl (fun _ => 0))))] H := hP
  have hD : va_D A [(h0, .inr (3, [.null, .null, .ref q1, .int 0, .ref q2, .int 0])), (q1, .inl (c1, (22, .inl (fun _ => 0)))), (q2, .inl (c2, (15, .inl (fun _ => 0))))] := hD
  refine lv_aload_n hx hb (by decide +kernel : decode prog_4_method_1_code 25 = .ok (.aload_n 0, 1)) rfl (lv_at hl 0 rfl) ?_
  refine lv_iconst (v := 0) hx hb (by decide +kernel : decode prog_4_method_1_code 26 = .ok (.iconst 0, 1)) (by decide) ?_
  refine va_put (D := (dC, dI)) (ci := 3) (v := .int 0) (ty := .int) (C := RW) (T := FW) (N := 6) hx hb hts tin2_W tW tW_ok nW hown hK hP hD hS 0 rfl rfl 5 (by decide) (hts _ (tc2 tv_114)) (fun _ h9 => h9) rfl (by decide +kernel) rfl rfl (Nat.le_of_ble_eq_true rfl) (by decide +kernel : decode prog_4_method_1_code 27 = .ok (.putfield 22, 3)) (fun H locs hP hD hS => ?_)
  have hP : va_P (dC, dI) xCl [(h0, .inr (3, [.null, .null, .ref q1, .int 0, .ref q2, .int 0])), (q1, .inl (c1, (22, .inl (fun _ => 0)))), (q2, .inl (c2, (15, .inl (fun _ => 0))))] H := hP
  have hD : va_D A [(h0, .inr (3, [.null, .null, .ref q1, .int 0, .ref q2, .int 0])), (q1, .inl (c1, (22, .inl (fun _ => 0)))), (q2, .inl (c2, (15, .inl (fun _ => 0))))] := hD
  refine lv_aload_n hx hb (by decide +kernel : decode prog_4_method_1_code 30 = .ok (.aload_n 0, 1)) rfl (lv_at hl 0 rfl) ?_
  refine lv_aload_n hx hb (by decide +kernel : decode prog_4_method_1_code 31 = .ok (.aload_n 1, 1)) rfl (lv_at hl 1 rfl) ?_
  refine va_putF (D := (dC, dI)) (ci := 3) (v := .ref a1) (ty := .object "NameMover$Store") (C := RW) (T := FW) (N := 6) hx hb hts tin2_W tW tW_ok nW hown hK hP hD hS 0 rfl rfl 0 (by decide) (hts _ (tc2 tv_109)) (fun _ h9 => h9) rfl hin rfl (by decide +kernel) rfl rfl (Nat.le_of_ble_eq_true rfl) (by decide +kernel : decode prog_4_method_1_code 32 = .ok (.putfield 25, 3)) (fun H locs hP hD hS => ?_)
  have hP : va_P (dC, dI) xCl [(h0, .inr (3, [.ref a1, .null, .ref q1, .int 0, .ref q2, .int 0])), (q1, .inl (c1, (22, .inl (fun _ => 0)))), (q2, .inl (c2, (15, .inl (fun _ => 0))))] H := hP
  have hD : va_D A [(h0, .inr (3, [.ref a1, .null, .ref q1, .int 0, .ref q2, .int 0])), (q1, .inl (c1, (22, .inl (fun _ => 0)))), (q2, .inl (c2, (15, .inl (fun _ => 0))))] := hD
  refine lv_aload_n hx hb (by decide +kernel : decode prog_4_method_1_code 35 = .ok (.aload_n 0, 1)) rfl (lv_at hl 0 rfl) ?_
  refine lv_aload_n hx hb (by decide +kernel : decode prog_4_method_1_code 36 = .ok (.aload_n 2, 1)) rfl (lv_at hl 2 rfl) ?_
  refine va_putF (D := (dC, dI)) (ci := 3) (v := .ref a2) (ty := .object "NameMover$ByteRow") (C := RW) (T := FW) (N := 6) hx hb hts tin2_W tW tW_ok nW hown hK hP hD hS 0 rfl rfl 1 (by decide) (hts _ (tc2 tv_110)) (fun _ h9 => h9) rfl hin rfl (by decide +kernel) rfl rfl (Nat.le_of_ble_eq_true rfl) (by decide +kernel : decode prog_4_method_1_code 37 = .ok (.putfield 29, 3)) (fun H locs hP hD hS => ?_)
  have hP : va_P (dC, dI) xCl [(h0, .inr (3, [.ref a1, .ref a2, .ref q1, .int 0, .ref q2, .int 0])), (q1, .inl (c1, (22, .inl (fun _ => 0)))), (q2, .inl (c2, (15, .inl (fun _ => 0))))] H := hP
  have hD : va_D A [(h0, .inr (3, [.ref a1, .ref a2, .ref q1, .int 0, .ref q2, .int 0])), (q1, .inl (c1, (22, .inl (fun _ => 0)))), (q2, .inl (c2, (15, .inl (fun _ => 0))))] := hD
  exact W.vret hx hb hr (fun t ht hW => ⟨⟨(), rfl, trivial, q1, c1, q2, c2, by rw [ht]; exact hP, va_K.moved hW.alike hK, hD⟩, hS.F ht⟩) hS.2.2 (by decide +kernel : decode prog_4_method_1_code 40 = .ok (.return_, 1))
end
section
abbrev at_R_init (dC : Nat → ClassId) (dI : Nat → Nat → Nat) (A : Nat → Prop) (h0 : Nat) (a1 : Nat) (a2 : Nat) (_ : Unit) (t : State) : Prop := ∃ (q1 : Nat) (c1 : ClassId), va_P (dC, dI) xCl [(h0, .inr (4, [.ref a1, .ref a2, .ref q1, .int 0, .int 0])), (q1, .inl (c1, (15, .inl (fun _ => 0))))] t.heap ∧ va_K (dC, dI) xCl [(c1, .int)] t ∧ va_D A [(h0, .inr (4, [.ref a1, .ref a2, .ref q1, .int 0, .int 0])), (q1, .inl (c1, (15, .inl (fun _ => 0))))]
abbrev y_R_init : MethodName := ⟨"NameMover$ClassReader", "<init>", "(LNameMover$Store;LNameMover$ByteRow;)V"⟩
abbrev ws_R_init : List Cond := Cond.code y_R_init prog_3_method_1_code 3 none :: xt2
set_option maxHeartbeats 1000000 in
set_option maxRecDepth 100000 in
theorem c_R_init (l : Launch) (dC : Nat → ClassId) (dI : Nat → Nat → Nat) (h0 sz : Nat) (a1 : Nat) (a2 : Nat) : Met l y_R_init ws_R_init ({ frames := 1, cells := 1, slots := 15, locals := 12 }) (va_Pc [.ref h0, .ref a1, .ref a2] (fun U => U.heap.size = sz ∧ va_P (dC, dI) xCl [(h0, .inr (4, [.null, .null, .null, .int 0, .int 0]))] U.heap ∧ va_K (dC, dI) xCl [] U ∧ va_D (fun _ => True) [(h0, .inr (4, [.null, .null, .null, .int 0, .int 0]))])) (va_Qv (fun _ : Unit => True) (at_R_init dC dI (va_A [(h0, .inr (4, [.null, .null, .null, .int 0, .int 0]))] sz) h0 a1 a2) (va_A [(h0, .inr (4, [.null, .null, .null, .int 0, .int 0]))] sz)) 1 15 (va_A [(h0, .inr (4, [.null, .null, .null, .int 0, .int 0]))] sz) := by
  refine Met.ofW (cc := prog_3_method_1_code) (maxL := 3) (ret := none) (by decide) rfl ?_
  intro p e s m args below meth c s₁ B hml hv
  obtain ⟨rfl, hsz, hP, hK, hD0⟩ := hv
  have hx := B.exec
  have hb := B.bytes
  have hr := B.returns
  have hts := atoms_spec (ws := ws_R_init) B.pre
  have hown : s.vm.findClass "NameMover$ClassReader" = some m.cls := findClass_of_methodNamed B.named
  have hlocks := B.notSynchronized
  have hin : meth.name = "<init>" := (name_of_methodNamed B.named B.method).1
  subst hsz
  have hD := hD0.self (sz := s.heap.size)
  generalize hAe : va_A [(h0, .inr (4, [.null, .null, .null, .int 0, .int 0]))] s.heap.size = A at hD ⊢
  have hA : ∀ q : Nat, s.heap.size ≤ q → A q := fun q h => by rw [← hAe]; exact Or.inr h
  have hS : va_S A s.heap s.heap [] := va_S.rf
  have hl := lv_entry ([.ref h0, .ref a1, .ref a2]) (n := 3) (Nat.le_of_ble_eq_true rfl)
  rw [lg_entry_eq]
  generalize (lg_sl ([.ref h0, .ref a1, .ref a2]) ++ List.replicate (3 - (lg_sl ([.ref h0, .ref a1, .ref a2])).length) Slot.unset).toArray = ls at hl ⊢
  have hl : lv_has ls 3 [(0, .ref h0), (1, .ref a1), (2, .ref a2)] := hl
  refine lv_aload_n hx hb (by decide +kernel : decode prog_3_method_1_code 0 = .ok (.aload_n 0, 1)) rfl (lv_at hl 0 rfl) ?_
  refine W.objInit hx hb hown (hts _ (tc2 tv_133)) (hts _ (tc2 tv_25)) (hts _ (tc2 tv_26)) rfl (by rw [hml]; exact hl.1) rfl (by decide +kernel : decode prog_3_method_1_code 1 = .ok (.invokespecial 1, 3)) (Nat.le_of_ble_eq_true rfl) (Nat.le_of_ble_eq_true rfl) ?_
  refine W.eq (g2 := F0 m 4 ls []) rfl ?_
  refine lv_aload_n hx hb (by decide +kernel : decode prog_3_method_1_code 4 = .ok (.aload_n 0, 1)) rfl (lv_at hl 0 rfl) ?_
  refine lv_bipush (v := 15) hx hb (by decide +kernel : decode prog_3_method_1_code 5 = .ok (.bipush 15, 2)) (by decide) ?_
  refine va_newa (D := (dC, dI)) (cl := xCl) (atype := .int) (N' := 15) (a0 := (15, .inl (fun _ => 0))) hx hb (hts _ (tc2 tv_88)) rfl hK hP hD hS hA (fun _ => rfl) (by decide) (by decide) (by decide) (by decide : 1 ≤ 1) (by decide : 15 ≤ 15) (by decide +kernel : decode prog_3_method_1_code 7 = .ok (.newarray .int, 2)) (fun q1 c1 H hK hP hD hS => ?_)
  have hP : va_P (dC, dI) xCl [(h0, .inr (4, [.null, .null, .null, .int 0, .int 0])), (q1, .inl (c1, (15, .inl (fun _ => 0))))] H := hP
  have hD : va_D A [(h0, .inr (4, [.null, .null, .null, .int 0, .int 0])), (q1, .inl (c1, (15, .inl (fun _ => 0))))] := hD
  have hK : va_K (dC, dI) xCl [(c1, .int)] s := hK
  refine W.widen (k := 1) (n := 15) (by omega) (by omega) ?_
  refine va_putF (D := (dC, dI)) (ci := 4) (v := .ref q1) (ty := .array .int) (C := RR) (T := FR) (N := 5) hx hb hts tin2_R tR tR_ok nR hown hK hP hD hS 0 rfl rfl 2 (by decide) (hts _ (tc2 tv_136)) (fun _ h9 => h9) rfl hin rfl (by decide +kernel) rfl rfl (Nat.le_of_ble_eq_true rfl) (by decide +kernel : decode prog_3_method_1_code 9 = .ok (.putfield 9, 3)) (fun H locs hP hD hS => ?_)
  have hP : va_P (dC, dI) xCl [(h0, .inr (4, [.null, .null, .ref q1, .int 0, .int 0])), (q1, .inl (c1, (15, .inl (fun _ => 0))))] H := hP
  have hD : va_D A [(h0, .inr (4, [.null, .null, .ref q1, .int 0, .int 0])), (q1, .inl (c1, (15, .inl (fun _ => 0))))] := hD
  refine lv_aload_n hx hb (by decide +kernel : decode prog_3_method_1_code 12 = .ok (.aload_n 0, 1)) rfl (lv_at hl 0 rfl) ?_
  refine lv_iconst (v := 0) hx hb (by decide +kernel : decode prog_3_method_1_code 13 = .ok (.iconst 0, 1)) (by decide) ?_
  refine va_put (D := (dC, dI)) (ci := 4) (v := .int 0) (ty := .int) (C := RR) (T := FR) (N := 5) hx hb hts tin2_R tR tR_ok nR hown hK hP hD hS 0 rfl rfl 3 (by decide) (hts _ (tc2 tv_137)) (fun _ h9 => h9) rfl (by decide +kernel) rfl rfl (Nat.le_of_ble_eq_true rfl) (by decide +kernel : decode prog_3_method_1_code 14 = .ok (.putfield 15, 3)) (fun H locs hP hD hS => ?_)
  have hP : va_P (dC, dI) xCl [(h0, .inr (4, [.null, .null, .ref q1, .int 0, .int 0])), (q1, .inl (c1, (15, .inl (fun _ => 0))))] H := hP
  have hD : va_D A [(h0, .inr (4, [.null, .null, .ref q1, .int 0, .int 0])), (q1, .inl (c1, (15, .inl (fun _ => 0))))] := hD
  refine lv_aload_n hx hb (by decide +kernel : decode prog_3_method_1_code 17 = .ok (.aload_n 0, 1)) rfl (lv_at hl 0 rfl) ?_
  refine lv_iconst (v := 0) hx hb (by decide +kernel : decode prog_3_method_1_code 18 = .ok (.iconst 0, 1)) (by decide) ?_
  refine va_put (D := (dC, dI)) (ci := 4) (v := .int 0) (ty := .int) (C := RR) (T := FR) (N := 5) hx hb hts tin2_R tR tR_ok nR hown hK hP hD hS 0 rfl rfl 4 (by decide) (hts _ (tc2 tv_138)) (fun _ h9 => h9) rfl (by decide +kernel) rfl rfl (Nat.le_of_ble_eq_true rfl) (by decide +kernel : decode prog_3_method_1_code 19 = .ok (.putfield 19, 3)) (fun H locs hP hD hS => ?_)
  have hP : va_P (dC, dI) xCl [(h0, .inr (4, [.null, .null, .ref q1, .int 0, .int 0])), (q1, .inl (c1, (15, .inl (fun _ => 0))))] H := hP
  have hD : va_D A [(h0, .inr (4, [.null, .null, .ref q1, .int 0, .int 0])), (q1, .inl (c1, (15, .inl (fun _ => 0))))] := hD
  refine lv_aload_n hx hb (by decide +kernel : decode prog_3_method_1_code 22 = .ok (.aload_n 0, 1)) rfl (lv_at hl 0 rfl) ?_
  refine lv_aload_n hx hb (by decide +kernel : decode prog_3_method_1_code 23 = .ok (.aload_n 1, 1)) rfl (lv_at hl 1 rfl) ?_
  refine va_putF (D := (dC, dI)) (ci := 4) (v := .ref a1) (ty := .object "NameMover$Store") (C := RR) (T := FR) (N := 5) hx hb hts tin2_R tR tR_ok nR hown hK hP hD hS 0 rfl rfl 0 (by decide) (hts _ (tc2 tv_134)) (fun _ h9 => h9) rfl hin rfl (by decide +kernel) rfl rfl (Nat.le_of_ble_eq_true rfl) (by decide +kernel : decode prog_3_method_1_code 24 = .ok (.putfield 22, 3)) (fun H locs hP hD hS => ?_)
  have hP : va_P (dC, dI) xCl [(h0, .inr (4, [.ref a1, .null, .ref q1, .int 0, .int 0])), (q1, .inl (c1, (15, .inl (fun _ => 0))))] H := hP
  have hD : va_D A [(h0, .inr (4, [.ref a1, .null, .ref q1, .int 0, .int 0])), (q1, .inl (c1, (15, .inl (fun _ => 0))))] := hD
  refine lv_aload_n hx hb (by decide +kernel : decode prog_3_method_1_code 27 = .ok (.aload_n 0, 1)) rfl (lv_at hl 0 rfl) ?_
  refine lv_aload_n hx hb (by decide +kernel : decode prog_3_method_1_code 28 = .ok (.aload_n 2, 1)) rfl (lv_at hl 2 rfl) ?_
  refine va_putF (D := (dC, dI)) (ci := 4) (v := .ref a2) (ty := .object "NameMover$ByteRow") (C := RR) (T := FR) (N := 5) hx hb hts tin2_R tR tR_ok nR hown hK hP hD hS 0 rfl rfl 1 (by decide) (hts _ (tc2 tv_135)) (fun _ h9 => h9) rfl hin rfl (by decide +kernel) rfl rfl (Nat.le_of_ble_eq_true rfl) (by decide +kernel : decode prog_3_method_1_code 29 = .ok (.putfield 26, 3)) (fun H locs hP hD hS => ?_)
  have hP : va_P (dC, dI) xCl [(h0, .inr (4, [.ref a1, .ref a2, .ref q1, .int 0, .int 0])), (q1, .inl (c1, (15, .inl (fun _ => 0))))] H := hP
  have hD : va_D A [(h0, .inr (4, [.ref a1, .ref a2, .ref q1, .int 0, .int 0])), (q1, .inl (c1, (15, .inl (fun _ => 0))))] := hD
  exact W.vret hx hb hr (fun t ht hW => ⟨⟨(), rfl, trivial, q1, c1, by rw [ht]; exact hP, va_K.moved hW.alike hK, hD⟩, hS.F ht⟩) hS.2.2 (by decide +kernel : decode prog_3_method_1_code 32 = .ok (.return_, 1))
end
section
abbrev at_N_init (dC : Nat → ClassId) (dI : Nat → Nat → Nat) (A : Nat → Prop) (h0 : Nat) (_ : Unit) (t : State) : Prop := ∃ (q1 : Nat), ∃ (q2 : Nat) (c2 : ClassId), ∃ (q3 : Nat) (c3 : ClassId), ∃ (q4 : Nat) (c4 : ClassId), ∃ (q5 : Nat) (c5 : ClassId), ∃ (q6 : Nat) (c6 : ClassId), ∃ (q7 : Nat) (c7 : ClassId), ∃ (q8 : Nat) (c8 : ClassId), ∃ (q9 : Nat) (c9 : ClassId), ∃ (q10 : Nat) (c10 : ClassId), ∃ (q11 : Nat) (c11 : ClassId), ∃ (q12 : Nat), ∃ (q13 : Nat) (c13 : ClassId), ∃ (q14 : Nat), ∃ (q15 : Nat) (c15 : ClassId), ∃ (q16 : Nat), ∃ (q17 : Nat) (c17 : ClassId), ∃ (q18 : Nat) (c18 : ClassId), ∃ (q19 : Nat), ∃ (q20 : Nat) (c20 : ClassId), ∃ (q21 : Nat) (c21 : ClassId), ∃ (q22 : Nat), ∃ (q23 : Nat) (c23 : ClassId), va_P (dC, dI) xCl [(h0, .inr (0, [.ref q1, .ref q12, .ref q14, .ref q16, .ref q19, .ref q22])), (q1, .inr (1, [.ref q2, .ref q3, .ref q4, .ref q5, .ref q6, .ref q7, .ref q8, .ref q9, .ref q10, .ref q11, .int 0])), (q2, .inl (c2, (8, .inr (.inl (fun _ => 0))))), (q3, .inl (c3, (8, .inr (.inl (fun _ => 0))))), (q4, .inl (c4, (8, .inl (fun _ => 0)))), (q5, .inl (c5, (8, .inl (fun _ => 0)))), (q6, .inl (c6, (8, .inl (fun _ => 0)))), (q7, .inl (c7, (8, .inl (fun _ => 0)))), (q8, .inl (c8, (64, .inr (.inl (fun _ => 0))))), (q9, .inl (c9, (64, .inr (.inl (fun _ => 0))))), (q10, .inl (c10, (64, .inr (.inl (fun _ => 0))))), (q11, .inl (c11, (64, .inl (fun _ => 0)))), (q12, .inr (2, [.ref q13, .int 0])), (q13, .inl (c13, (512, .inl (fun _ => 0)))), (q14, .inr (2, [.ref q15, .int 0])), (q15, .inl (c15, (512, .inl (fun _ => 0)))), (q16, .inr (3, [.ref q1, .ref q12, .ref q17, .int 0, .ref q18, .int 0])), (q17, .inl (c17, (22, .inl (fun _ => 0)))), (q18, .inl (c18, (15, .inl (fun _ => 0)))), (q19, .inr (3, [.ref q1, .ref q14, .ref q20, .int 0, .ref q21, .int 0])), (q20, .inl (c20, (22, .inl (fun _ => 0)))), (q21, .inl (c21, (15, .inl (fun _ => 0)))), (q22, .inr (4, [.ref q1, .ref q12, .ref q23, .int 0, .int 0])), (q23, .inl (c23, (15, .inl (fun _ => 0))))] t.heap ∧ va_K (dC, dI) xCl [(c2, .long), (c3, .long), (c4, .int), (c5, .boolean), (c6, .int), (c7, .int), (c8, .long), (c9, .long), (c10, .long), (c11, .boolean), (c13, .int), (c15, .int), (c17, .int), (c18, .int), (c20, .int), (c21, .int), (c23, .int)] t ∧ va_D A [(h0, .inr (0, [.ref q1, .ref q12, .ref q14, .ref q16, .ref q19, .ref q22])), (q1, .inr (1, [.ref q2, .ref q3, .ref q4, .ref q5, .ref q6, .ref q7, .ref q8, .ref q9, .ref q10, .ref q11, .int 0])), (q2, .inl (c2, (8, .inr (.inl (fun _ => 0))))), (q3, .inl (c3, (8, .inr (.inl (fun _ => 0))))), (q4, .inl (c4, (8, .inl (fun _ => 0)))), (q5, .inl (c5, (8, .inl (fun _ => 0)))), (q6, .inl (c6, (8, .inl (fun _ => 0)))), (q7, .inl (c7, (8, .inl (fun _ => 0)))), (q8, .inl (c8, (64, .inr (.inl (fun _ => 0))))), (q9, .inl (c9, (64, .inr (.inl (fun _ => 0))))), (q10, .inl (c10, (64, .inr (.inl (fun _ => 0))))), (q11, .inl (c11, (64, .inl (fun _ => 0)))), (q12, .inr (2, [.ref q13, .int 0])), (q13, .inl (c13, (512, .inl (fun _ => 0)))), (q14, .inr (2, [.ref q15, .int 0])), (q15, .inl (c15, (512, .inl (fun _ => 0)))), (q16, .inr (3, [.ref q1, .ref q12, .ref q17, .int 0, .ref q18, .int 0])), (q17, .inl (c17, (22, .inl (fun _ => 0)))), (q18, .inl (c18, (15, .inl (fun _ => 0)))), (q19, .inr (3, [.ref q1, .ref q14, .ref q20, .int 0, .ref q21, .int 0])), (q20, .inl (c20, (22, .inl (fun _ => 0)))), (q21, .inl (c21, (15, .inl (fun _ => 0)))), (q22, .inr (4, [.ref q1, .ref q12, .ref q23, .int 0, .int 0])), (q23, .inl (c23, (15, .inl (fun _ => 0))))]
abbrev y_N_init : MethodName := ⟨"NameMover", "<init>", "()V"⟩
abbrev ws_N_init : List Cond := Cond.code y_N_init prog_1_method_1_code 1 none :: xt2
set_option maxHeartbeats 1000000 in
set_option maxRecDepth 100000 in
theorem c_N_init (l : Launch) (dC : Nat → ClassId) (dI : Nat → Nat → Nat) (h0 sz : Nat) : Met l y_N_init ws_N_init ({ frames := 2, cells := 23, slots := 1449, locals := 34 }) (va_Pc [.ref h0] (fun U => U.heap.size = sz ∧ va_P (dC, dI) xCl [(h0, .inr (0, [.null, .null, .null, .null, .null, .null]))] U.heap ∧ va_K (dC, dI) xCl [] U ∧ va_D (fun _ => True) [(h0, .inr (0, [.null, .null, .null, .null, .null, .null]))] ∧ va_Nw (.methodLinkNest "NameMover" 18 ⟨"NameMover$ByteRow", "<init>", "()V"⟩ "NameMover") U ∧ va_Nw (.methodLinkNest "NameMover" 9 ⟨"NameMover$Store", "<init>", "()V"⟩ "NameMover") U)) (va_Qv (fun _ : Unit => True) (at_N_init dC dI (va_A [(h0, .inr (0, [.null, .null, .null, .null, .null, .null]))] sz) h0) (va_A [(h0, .inr (0, [.null, .null, .null, .null, .null, .null]))] sz)) 23 1449 (va_A [(h0, .inr (0, [.null, .null, .null, .null, .null, .null]))] sz) := by
  refine Met.ofW (cc := prog_1_method_1_code) (maxL := 1) (ret := none) (by decide) rfl ?_
  intro p e s m args below meth c s₁ B hml hv
  obtain ⟨rfl, hsz, hP, hK, hD0, hn_B, hn_S⟩ := hv
  have hx := B.exec
  have hb := B.bytes
  have hr := B.returns
  have hts := atoms_spec (ws := ws_N_init) B.pre
  have hown : s.vm.findClass "NameMover" = some m.cls := findClass_of_methodNamed B.named
  have hlocks := B.notSynchronized
  have hin : meth.name = "<init>" := (name_of_methodNamed B.named B.method).1
  subst hsz
  have hD := hD0.self (sz := s.heap.size)
  generalize hAe : va_A [(h0, .inr (0, [.null, .null, .null, .null, .null, .null]))] s.heap.size = A at hD ⊢
  have hA : ∀ q : Nat, s.heap.size ≤ q → A q := fun q h => by rw [← hAe]; exact Or.inr h
  have hS : va_S A s.heap s.heap [] := va_S.rf
  have hl := lv_entry ([.ref h0]) (n := 1) (Nat.le_of_ble_eq_true rfl)
  rw [lg_entry_eq]
  generalize (lg_sl ([.ref h0]) ++ List.replicate (1 - (lg_sl ([.ref h0])).length) Slot.unset).toArray = ls at hl ⊢
  have hl : lv_has ls 1 [(0, .ref h0)] := hl
  refine lv_aload_n hx hb (by decide +kernel : decode prog_1_method_1_code 0 = .ok (.aload_n 0, 1)) rfl (lv_at hl 0 rfl) ?_
  refine W.objInit hx hb hown (hts _ (tc2 tv_24)) (hts _ (tc2 tv_25)) (hts _ (tc2 tv_26)) rfl (by rw [hml]; exact hl.1) rfl (by decide +kernel : decode prog_1_method_1_code 1 = .ok (.invokespecial 1, 3)) (Nat.le_of_ble_eq_true rfl) (Nat.le_of_ble_eq_true rfl) ?_
  refine W.eq (g2 := F0 m 4 ls []) rfl ?_
  refine lv_aload_n hx hb (by decide +kernel : decode prog_1_method_1_code 4 = .ok (.aload_n 0, 1)) rfl (lv_at hl 0 rfl) ?_
  refine va_new (D := (dC, dI)) (cl := xCl) (ci := 1) (fs := [.null, .null, .null, .null, .null, .null, .null, .null, .null, .null, .int 0]) (C := RS) (T := FS) (N := 11) hx hb hts (tin2_S) tS tS_ok hown (hts _ (tc2 tv_27)) (hts _ (tc2 tv_28)) (hts _ (tc2 tv_2)) hK hP hD hS hA rfl (by decide +kernel) (by decide : 1 ≤ 23) (by decide : 11 ≤ 1449) (by decide +kernel : decode prog_1_method_1_code 5 = .ok (.new 7, 3)) (fun q1 H hP hD hS => ?_)
  have hP : va_P (dC, dI) xCl [(h0, .inr (0, [.null, .null, .null, .null, .null, .null])), (q1, .inr (1, [.null, .null, .null, .null, .null, .null, .null, .null, .null, .null, .int 0]))] H := hP
  have hD : va_D A [(h0, .inr (0, [.null, .null, .null, .null, .null, .null])), (q1, .inr (1, [.null, .null, .null, .null, .null, .null, .null, .null, .null, .null, .int 0]))] := hD
  refine W.widen (k := 1) (n := 11) (by omega) (by omega) ?_
  refine lv_dup hx hb (by decide +kernel : decode prog_1_method_1_code 8 = .ok (.dup, 1)) rfl ?_
  have hPc := hP.sub (ws' := [(q1, .inr (1, [.null, .null, .null, .null, .null, .null, .null, .null, .null, .null, .int 0]))]) [1] rfl
  have hDc := hD.sub (ws' := [(q1, .inr (1, [.null, .null, .null, .null, .null, .null, .null, .null, .null, .null, .int 0]))]) [1] (by decide) rfl
  have hKc := hK.sub (tys' := []) [] rfl
  have hFc := va_free (wc := [(q1, .inr (1, [.null, .null, .null, .null, .null, .null, .null, .null, .null, .null, .int 0]))]) hD hS hA [1] rfl
  refine va_callv (va_runIN (As := []) (rest := [.ref q1, .ref h0]) ⟨hx, hb, hml, hown, hts⟩ (c_S_init l dC dI q1 H.size) ⟨va_cnB 0 hts (xt2_good tv_31) rfl rfl rfl hn_S (hts _ (tc2 tv_2)) ⟨by decide, by decide, by decide +kernel⟩ ⟨Nat.le_of_ble_eq_true rfl, Nat.le_of_ble_eq_true rfl⟩, rfl, hts _ (tc2 tv_30)⟩ ⟨fun a U g mk q => by obtain ⟨z0, z1, zP, zK, zD⟩ := q; exact ⟨z0, z1, zP, va_K.moved (u := U) (U := U.calling g mk a) (Vm.Alike.refl U.vm) zK, zD⟩, fun U hU hW => ⟨rfl, by rw [hU], by rw [hU]; exact hPc, va_K.moved hW.alike hKc, hDc.weaken (fun _ _ _ _ => trivial)⟩⟩ rfl rfl hl.1 rfl (lv_room (Nat.le_of_ble_eq_true rfl)) (by decide +kernel : decode prog_1_method_1_code 9 = .ok (.invokespecial 9, 3)) ⟨(by decide : 11 ≤ 23), (by decide : 315 ≤ 1449)⟩) hS (fun q _ h => hFc q h) hFc (fun u t H1 locs ht hvm hw hB hz1 hk1 hS => ?_)
  obtain ⟨q2, c2, q3, c3, q4, c4, q5, c5, q6, c6, q7, c7, q8, c8, q9, c9, q10, c10, q11, c11, hP1, hK1, hD1⟩ := hB
  rw [ht] at hP1
  have hK1 := va_K.moved hvm.symm hK1
  obtain ⟨hP, hD⟩ := va_join (wr := [(h0, .inr (0, [.null, .null, .null, .null, .null, .null]))]) (w1 := [(q1, .inr (1, [.ref q2, .ref q3, .ref q4, .ref q5, .ref q6, .ref q7, .ref q8, .ref q9, .ref q10, .ref q11, .int 0])), (q2, .inl (c2, (8, .inr (.inl (fun _ => 0))))), (q3, .inl (c3, (8, .inr (.inl (fun _ => 0))))), (q4, .inl (c4, (8, .inl (fun _ => 0)))), (q5, .inl (c5, (8, .inl (fun _ => 0)))), (q6, .inl (c6, (8, .inl (fun _ => 0)))), (q7, .inl (c7, (8, .inl (fun _ => 0)))), (q8, .inl (c8, (64, .inr (.inl (fun _ => 0))))), (q9, .inl (c9, (64, .inr (.inl (fun _ => 0))))), (q10, .inl (c10, (64, .inr (.inl (fun _ => 0))))), (q11, .inl (c11, (64, .inl (fun _ => 0))))]) hP hD [1] [0] rfl rfl (by decide) (by decide) hk1 hFc hP1 hD1
  have hK := hK.app hK1
  generalize H1 = H at hP hS ⊢
  have hP : va_P (dC, dI) xCl [(h0, .inr (0, [.null, .null, .null, .null, .null, .null])), (q1, .inr (1, [.ref q2, .ref q3, .ref q4, .ref q5, .ref q6, .ref q7, .ref q8, .ref q9, .ref q10, .ref q11, .int 0])), (q2, .inl (c2, (8, .inr (.inl (fun _ => 0))))), (q3, .inl (c3, (8, .inr (.inl (fun _ => 0))))), (q4, .inl (c4, (8, .inl (fun _ => 0)))), (q5, .inl (c5, (8, .inl (fun _ => 0)))), (q6, .inl (c6, (8, .inl (fun _ => 0)))), (q7, .inl (c7, (8, .inl (fun _ => 0)))), (q8, .inl (c8, (64, .inr (.inl (fun _ => 0))))), (q9, .inl (c9, (64, .inr (.inl (fun _ => 0))))), (q10, .inl (c10, (64, .inr (.inl (fun _ => 0))))), (q11, .inl (c11, (64, .inl (fun _ => 0))))] H := hP
  have hD : va_D A [(h0, .inr (0, [.null, .null, .null, .null, .null, .null])), (q1, .inr (1, [.ref q2, .ref q3, .ref q4, .ref q5, .ref q6, .ref q7, .ref q8, .ref q9, .ref q10, .ref q11, .int 0])), (q2, .inl (c2, (8, .inr (.inl (fun _ => 0))))), (q3, .inl (c3, (8, .inr (.inl (fun _ => 0))))), (q4, .inl (c4, (8, .inl (fun _ => 0)))), (q5, .inl (c5, (8, .inl (fun _ => 0)))), (q6, .inl (c6, (8, .inl (fun _ => 0)))), (q7, .inl (c7, (8, .inl (fun _ => 0)))), (q8, .inl (c8, (64, .inr (.inl (fun _ => 0))))), (q9, .inl (c9, (64, .inr (.inl (fun _ => 0))))), (q10, .inl (c10, (64, .inr (.inl (fun _ => 0))))), (q11, .inl (c11, (64, .inl (fun _ => 0))))] := hD
  have hK : va_K (dC, dI) xCl [(c2, .long), (c3, .long), (c4, .int), (c5, .boolean), (c6, .int), (c7, .int), (c8, .long), (c9, .long), (c10, .long), (c11, .boolean)] s := hK
  refine va_putF (D := (dC, dI)) (ci := 0) (v := .ref q1) (ty := .object "NameMover$Store") (C := RN) (T := FN) (N := 6) hx hb hts tin2_N tN tN_ok nN hown hK hP hD hS 0 rfl rfl 0 (by decide) (hts _ (tc2 tv_150)) (fun _ h9 => h9) rfl hin rfl (by decide +kernel) rfl rfl (Nat.le_of_ble_eq_true rfl) (by decide +kernel : decode prog_1_method_1_code 12 = .ok (.putfield 10, 3)) (fun H locs hP hD hS => ?_)
  have hP : va_P (dC, dI) xCl [(h0, .inr (0, [.ref q1, .null, .null, .null, .null, .null])), (q1, .inr (1, [.ref q2, .ref q3, .ref q4, .ref q5, .ref q6, .ref q7, .ref q8, .ref q9, .ref q10, .ref q11, .int 0])), (q2, .inl (c2, (8, .inr (.inl (fun _ => 0))))), (q3, .inl (c3, (8, .inr (.inl (fun _ => 0))))), (q4, .inl (c4, (8, .inl (fun _ => 0)))), (q5, .inl (c5, (8, .inl (fun _ => 0)))), (q6, .inl (c6, (8, .inl (fun _ => 0)))), (q7, .inl (c7, (8, .inl (fun _ => 0)))), (q8, .inl (c8, (64, .inr (.inl (fun _ => 0))))), (q9, .inl (c9, (64, .inr (.inl (fun _ => 0))))), (q10, .inl (c10, (64, .inr (.inl (fun _ => 0))))), (q11, .inl (c11, (64, .inl (fun _ => 0))))] H := hP
  have hD : va_D A [(h0, .inr (0, [.ref q1, .null, .null, .null, .null, .null])), (q1, .inr (1, [.ref q2, .ref q3, .ref q4, .ref q5, .ref q6, .ref q7, .ref q8, .ref q9, .ref q10, .ref q11, .int 0])), (q2, .inl (c2, (8, .inr (.inl (fun _ => 0))))), (q3, .inl (c3, (8, .inr (.inl (fun _ => 0))))), (q4, .inl (c4, (8, .inl (fun _ => 0)))), (q5, .inl (c5, (8, .inl (fun _ => 0)))), (q6, .inl (c6, (8, .inl (fun _ => 0)))), (q7, .inl (c7, (8, .inl (fun _ => 0)))), (q8, .inl (c8, (64, .inr (.inl (fun _ => 0))))), (q9, .inl (c9, (64, .inr (.inl (fun _ => 0))))), (q10, .inl (c10, (64, .inr (.inl (fun _ => 0))))), (q11, .inl (c11, (64, .inl (fun _ => 0))))] := hD
  refine lv_aload_n hx hb (by decide +kernel : decode prog_1_method_1_code 15 = .ok (.aload_n 0, 1)) rfl (lv_at hl 0 rfl) ?_
  refine va_new (D := (dC, dI)) (cl := xCl) (ci := 2) (fs := [.null, .int 0]) (C := RB) (T := FB) (N := 2) hx hb hts (tin2_B) tB tB_ok hown (hts _ (tc2 tv_90)) (hts _ (tc2 tv_91)) (hts _ (tc2 tv_3)) hK hP hD hS hA rfl (by decide +kernel) (by decide : 12 ≤ 23) (by decide : 317 ≤ 1449) (by decide +kernel : decode prog_1_method_1_code 16 = .ok (.new 16, 3)) (fun q12 H hP hD hS => ?_)
  have hP : va_P (dC, dI) xCl [(h0, .inr (0, [.ref q1, .null, .null, .null, .null, .null])), (q1, .inr (1, [.ref q2, .ref q3, .ref q4, .ref q5, .ref q6, .ref q7, .ref q8, .ref q9, .ref q10, .ref q11, .int 0])), (q2, .inl (c2, (8, .inr (.inl (fun _ => 0))))), (q3, .inl (c3, (8, .inr (.inl (fun _ => 0))))), (q4, .inl (c4, (8, .inl (fun _ => 0)))), (q5, .inl (c5, (8, .inl (fun _ => 0)))), (q6, .inl (c6, (8, .inl (fun _ => 0)))), (q7, .inl (c7, (8, .inl (fun _ => 0)))), (q8, .inl (c8, (64, .inr (.inl (fun _ => 0))))), (q9, .inl (c9, (64, .inr (.inl (fun _ => 0))))), (q10, .inl (c10, (64, .inr (.inl (fun _ => 0))))), (q11, .inl (c11, (64, .inl (fun _ => 0)))), (q12, .inr (2, [.null, .int 0]))] H := hP
  have hD : va_D A [(h0, .inr (0, [.ref q1, .null, .null, .null, .null, .null])), (q1, .inr (1, [.ref q2, .ref q3, .ref q4, .ref q5, .ref q6, .ref q7, .ref q8, .ref q9, .ref q10, .ref q11, .int 0])), (q2, .inl (c2, (8, .inr (.inl (fun _ => 0))))), (q3, .inl (c3, (8, .inr (.inl (fun _ => 0))))), (q4, .inl (c4, (8, .inl (fun _ => 0)))), (q5, .inl (c5, (8, .inl (fun _ => 0)))), (q6, .inl (c6, (8, .inl (fun _ => 0)))), (q7, .inl (c7, (8, .inl (fun _ => 0)))), (q8, .inl (c8, (64, .inr (.inl (fun _ => 0))))), (q9, .inl (c9, (64, .inr (.inl (fun _ => 0))))), (q10, .inl (c10, (64, .inr (.inl (fun _ => 0))))), (q11, .inl (c11, (64, .inl (fun _ => 0)))), (q12, .inr (2, [.null, .int 0]))] := hD
  refine W.widen (k := 12) (n := 317) (by omega) (by omega) ?_
  refine lv_dup hx hb (by decide +kernel : decode prog_1_method_1_code 19 = .ok (.dup, 1)) rfl ?_
  have hPc := hP.sub (ws' := [(q12, .inr (2, [.null, .int 0]))]) [12] rfl
  have hDc := hD.sub (ws' := [(q12, .inr (2, [.null, .int 0]))]) [12] (by decide) rfl
  have hKc := hK.sub (tys' := []) [] rfl
  have hFc := va_free (wc := [(q12, .inr (2, [.null, .int 0]))]) hD hS hA [12] rfl
  refine va_callv (va_runIN (As := []) (rest := [.ref q12, .ref h0]) ⟨hx, hb, hml, hown, hts⟩ (c_B_init l dC dI q12 H.size) ⟨va_cnB 0 hts (xt2_good tv_94) rfl rfl rfl hn_B (hts _ (tc2 tv_3)) ⟨by decide, by decide, by decide +kernel⟩ ⟨Nat.le_of_ble_eq_true rfl, Nat.le_of_ble_eq_true rfl⟩, rfl, hts _ (tc2 tv_93)⟩ ⟨fun a U g mk q => by obtain ⟨z0, z1, zP, zK, zD⟩ := q; exact ⟨z0, z1, zP, va_K.moved (u := U) (U := U.calling g mk a) (Vm.Alike.refl U.vm) zK, zD⟩, fun U hU hW => ⟨rfl, by rw [hU], by rw [hU]; exact hPc, va_K.moved hW.alike hKc, hDc.weaken (fun _ _ _ _ => trivial)⟩⟩ rfl rfl hl.1 rfl (lv_room (Nat.le_of_ble_eq_true rfl)) (by decide +kernel : decode prog_1_method_1_code 20 = .ok (.invokespecial 18, 3)) ⟨(by decide : 13 ≤ 23), (by decide : 829 ≤ 1449)⟩) hS (fun q _ h => hFc q h) hFc (fun u t H1 locs ht hvm hw hB hz1 hk1 hS => ?_)
  obtain ⟨q13, c13, hP1, hK1, hD1⟩ := hB
  rw [ht] at hP1
  have hK1 := va_K.moved hvm.symm hK1
  obtain ⟨hP, hD⟩ := va_join (wr := [(h0, .inr (0, [.ref q1, .null, .null, .null, .null, .null])), (q1, .inr (1, [.ref q2, .ref q3, .ref q4, .ref q5, .ref q6, .ref q7, .ref q8, .ref q9, .ref q10, .ref q11, .int 0])), (q2, .inl (c2, (8, .inr (.inl (fun _ => 0))))), (q3, .inl (c3, (8, .inr (.inl (fun _ => 0))))), (q4, .inl (c4, (8, .inl (fun _ => 0)))), (q5, .inl (c5, (8, .inl (fun _ => 0)))), (q6, .inl (c6, (8, .inl (fun _ => 0)))), (q7, .inl (c7, (8, .inl (fun _ => 0)))), (q8, .inl (c8, (64, .inr (.inl (fun _ => 0))))), (q9, .inl (c9, (64, .inr (.inl (fun _ => 0))))), (q10, .inl (c10, (64, .inr (.inl (fun _ => 0))))), (q11, .inl (c11, (64, .inl (fun _ => 0))))]) (w1 := [(q12, .inr (2, [.ref q13, .int 0])), (q13, .inl (c13, (512, .inl (fun _ => 0))))]) hP hD [12] [0, 1, 2, 3, 4, 5, 6, 7, 8, 9, 10, 11] rfl rfl (by decide) (by decide) hk1 hFc hP1 hD1
  have hK := hK.app hK1
  generalize H1 = H at hP hS ⊢
  have hP : va_P (dC, dI) xCl [(h0, .inr (0, [.ref q1, .null, .null, .null, .null, .null])), (q1, .inr (1, [.ref q2, .ref q3, .ref q4, .ref q5, .ref q6, .ref q7, .ref q8, .ref q9, .ref q10, .ref q11, .int 0])), (q2, .inl (c2, (8, .inr (.inl (fun _ => 0))))), (q3, .inl (c3, (8, .inr (.inl (fun _ => 0))))), (q4, .inl (c4, (8, .inl (fun _ => 0)))), (q5, .inl (c5, (8, .inl (fun _ => 0)))), (q6, .inl (c6, (8, .inl (fun _ => 0)))), (q7, .inl (c7, (8, .inl (fun _ => 0)))), (q8, .inl (c8, (64, .inr (.inl (fun _ => 0))))), (q9, .inl (c9, (64, .inr (.inl (fun _ => 0))))), (q10, .inl (c10, (64, .inr (.inl (fun _ => 0))))), (q11, .inl (c11, (64, .inl (fun _ => 0)))), (q12, .inr (2, [.ref q13, .int 0])), (q13, .inl (c13, (512, .inl (fun _ => 0))))] H := hP
  have hD : va_D A [(h0, .inr (0, [.ref q1, .null, .null, .null, .null, .null])), (q1, .inr (1, [.ref q2, .ref q3, .ref q4, .ref q5, .ref q6, .ref q7, .ref q8, .ref q9, .ref q10, .ref q11, .int 0])), (q2, .inl (c2, (8, .inr (.inl (fun _ => 0))))), (q3, .inl (c3, (8, .inr (.inl (fun _ => 0))))), (q4, .inl (c4, (8, .inl (fun _ => 0)))), (q5, .inl (c5, (8, .inl (fun _ => 0)))), (q6, .inl (c6, (8, .inl (fun _ => 0)))), (q7, .inl (c7, (8, .inl (fun _ => 0)))), (q8, .inl (c8, (64, .inr (.inl (fun _ => 0))))), (q9, .inl (c9, (64, .inr (.inl (fun _ => 0))))), (q10, .inl (c10, (64, .inr (.inl (fun _ => 0))))), (q11, .inl (c11, (64, .inl (fun _ => 0)))), (q12, .inr (2, [.ref q13, .int 0])), (q13, .inl (c13, (512, .inl (fun _ => 0))))] := hD
  have hK : va_K (dC, dI) xCl [(c2, .long), (c3, .long), (c4, .int), (c5, .boolean), (c6, .int), (c7, .int), (c8, .long), (c9, .long), (c10, .long), (c11, .boolean), (c13, .int)] s := hK
  refine va_putF (D := (dC, dI)) (ci := 0) (v := .ref q12) (ty := .object "NameMover$ByteRow") (C := RN) (T := FN) (N := 6) hx hb hts tin2_N tN tN_ok nN hown hK hP hD hS 0 rfl rfl 1 (by decide) (hts _ (tc2 tv_151)) (fun _ h9 => h9) rfl hin rfl (by decide +kernel) rfl rfl (Nat.le_of_ble_eq_true rfl) (by decide +kernel : decode prog_1_method_1_code 23 = .ok (.putfield 19, 3)) (fun H locs hP hD hS => ?_)
  have hP : va_P (dC, dI) xCl [(h0, .inr (0, [.ref q1, .ref q12, .null, .null, .null, .null])), (q1, .inr (1, [.ref q2, .ref q3, .ref q4, .ref q5, .ref q6, .ref q7, .ref q8, .ref q9, .ref q10, .ref q11, .int 0])), (q2, .inl (c2, (8, .inr (.inl (fun _ => 0))))), (q3, .inl (c3, (8, .inr (.inl (fun _ => 0))))), (q4, .inl (c4, (8, .inl (fun _ => 0)))), (q5, .inl (c5, (8, .inl (fun _ => 0)))), (q6, .inl (c6, (8, .inl (fun _ => 0)))), (q7, .inl (c7, (8, .inl (fun _ => 0)))), (q8, .inl (c8, (64, .inr (.inl (fun _ => 0))))), (q9, .inl (c9, (64, .inr (.inl (fun _ => 0))))), (q10, .inl (c10, (64, .inr (.inl (fun _ => 0))))), (q11, .inl (c11, (64, .inl (fun _ => 0)))), (q12, .inr (2, [.ref q13, .int 0])), (q13, .inl (c13, (512, .inl (fun _ => 0))))] H := hP
  have hD : va_D A [(h0, .inr (0, [.ref q1, .ref q12, .null, .null, .null, .null])), (q1, .inr (1, [.ref q2, .ref q3, .ref q4, .ref q5, .ref q6, .ref q7, .ref q8, .ref q9, .ref q10, .ref q11, .int 0])), (q2, .inl (c2, (8, .inr (.inl (fun _ => 0))))), (q3, .inl (c3, (8, .inr (.inl (fun _ => 0))))), (q4, .inl (c4, (8, .inl (fun _ => 0)))), (q5, .inl (c5, (8, .inl (fun _ => 0)))), (q6, .inl (c6, (8, .inl (fun _ => 0)))), (q7, .inl (c7, (8, .inl (fun _ => 0)))), (q8, .inl (c8, (64, .inr (.inl (fun _ => 0))))), (q9, .inl (c9, (64, .inr (.inl (fun _ => 0))))), (q10, .inl (c10, (64, .inr (.inl (fun _ => 0))))), (q11, .inl (c11, (64, .inl (fun _ => 0)))), (q12, .inr (2, [.ref q13, .int 0])), (q13, .inl (c13, (512, .inl (fun _ => 0))))] := hD
  refine lv_aload_n hx hb (by decide +kernel : decode prog_1_method_1_code 26 = .ok (.aload_n 0, 1)) rfl (lv_at hl 0 rfl) ?_
  refine va_new (D := (dC, dI)) (cl := xCl) (ci := 2) (fs := [.null, .int 0]) (C := RB) (T := FB) (N := 2) hx hb hts (tin2_B) tB tB_ok hown (hts _ (tc2 tv_90)) (hts _ (tc2 tv_91)) (hts _ (tc2 tv_3)) hK hP hD hS hA rfl (by decide +kernel) (by decide : 14 ≤ 23) (by decide : 831 ≤ 1449) (by decide +kernel : decode prog_1_method_1_code 27 = .ok (.new 16, 3)) (fun q14 H hP hD hS => ?_)
  have hP : va_P (dC, dI) xCl [(h0, .inr (0, [.ref q1, .ref q12, .null, .null, .null, .null])), (q1, .inr (1, [.ref q2, .ref q3, .ref q4, .ref q5, .ref q6, .ref q7, .ref q8, .ref q9, .ref q10, .ref q11, .int 0])), (q2, .inl (c2, (8, .inr (.inl (fun _ => 0))))), (q3, .inl (c3, (8, .inr (.inl (fun _ => 0))))), (q4, .inl (c4, (8, .inl (fun _ => 0)))), (q5, .inl (c5, (8, .inl (fun _ => 0)))), (q6, .inl (c6, (8, .inl (fun _ => 0)))), (q7, .inl (c7, (8, .inl (fun _ => 0)))), (q8, .inl (c8, (64, .inr (.inl (fun _ => 0))))), (q9, .inl (c9, (64, .inr (.inl (fun _ => 0))))), (q10, .inl (c10, (64, .inr (.inl (fun _ => 0))))), (q11, .inl (c11, (64, .inl (fun _ => 0)))), (q12, .inr (2, [.ref q13, .int 0])), (q13, .inl (c13, (512, .inl (fun _ => 0)))), (q14, .inr (2, [.null, .int 0]))] H := hP
  have hD : va_D A [(h0, .inr (0, [.ref q1, .ref q12, .null, .null, .null, .null])), (q1, .inr (1, [.ref q2, .ref q3, .ref q4, .ref q5, .ref q6, .ref q7, .ref q8, .ref q9, .ref q10, .ref q11, .int 0])), (q2, .inl (c2, (8, .inr (.inl (fun _ => 0))))), (q3, .inl (c3, (8, .inr (.inl (fun _ => 0))))), (q4, .inl (c4, (8, .inl (fun _ => 0)))), (q5, .inl (c5, (8, .inl (fun _ => 0)))), (q6, .inl (c6, (8, .inl (fun _ => 0)))), (q7, .inl (c7, (8, .inl (fun _ => 0)))), (q8, .inl (c8, (64, .inr (.inl (fun _ => 0))))), (q9, .inl (c9, (64, .inr (.inl (fun _ => 0))))), (q10, .inl (c10, (64, .inr (.inl (fun _ => 0))))), (q11, .inl (c11, (64, .inl (fun _ => 0)))), (q12, .inr (2, [.ref q13, .int 0])), (q13, .inl (c13, (512, .inl (fun _ => 0)))), (q14, .inr (2, [.null, .int 0]))] := hD
  refine W.widen (k := 14) (n := 831) (by omega) (by omega) ?_
  refine lv_dup hx hb (by decide +kernel : decode prog_1_method_1_code 30 = .ok (.dup, 1)) rfl ?_
  have hPc := hP.sub (ws' := [(q14, .inr (2, [.null, .int 0]))]) [14] rfl
  have hDc := hD.sub (ws' := [(q14, .inr (2, [.null, .int 0]))]) [14] (by decide) rfl
  have hKc := hK.sub (tys' := []) [] rfl
  have hFc := va_free (wc := [(q14, .inr (2, [.null, .int 0]))]) hD hS hA [14] rfl
  refine va_callv (va_runIN (As := []) (rest := [.ref q14, .ref h0]) ⟨hx, hb, hml, hown, hts⟩ (c_B_init l dC dI q14 H.size) ⟨va_cnB 0 hts (xt2_good tv_94) rfl rfl rfl hn_B (hts _ (tc2 tv_3)) ⟨by decide, by decide, by decide +kernel⟩ ⟨Nat.le_of_ble_eq_true rfl, Nat.le_of_ble_eq_true rfl⟩, rfl, hts _ (tc2 tv_93)⟩ ⟨fun a U g mk q => by obtain ⟨z0, z1, zP, zK, zD⟩ := q; exact ⟨z0, z1, zP, va_K.moved (u := U) (U := U.calling g mk a) (Vm.Alike.refl U.vm) zK, zD⟩, fun U hU hW => ⟨rfl, by rw [hU], by rw [hU]; exact hPc, va_K.moved hW.alike hKc, hDc.weaken (fun _ _ _ _ => trivial)⟩⟩ rfl rfl hl.1 rfl (lv_room (Nat.le_of_ble_eq_true rfl)) (by decide +kernel : decode prog_1_method_1_code 31 = .ok (.invokespecial 18, 3)) ⟨(by decide : 15 ≤ 23), (by decide : 1343 ≤ 1449)⟩) hS (fun q _ h => hFc q h) hFc (fun u t H1 locs ht hvm hw hB hz1 hk1 hS => ?_)
  obtain ⟨q15, c15, hP1, hK1, hD1⟩ := hB
  rw [ht] at hP1
  have hK1 := va_K.moved hvm.symm hK1
  obtain ⟨hP, hD⟩ := va_join (wr := [(h0, .inr (0, [.ref q1, .ref q12, .null, .null, .null, .null])), (q1, .inr (1, [.ref q2, .ref q3, .ref q4, .ref q5, .ref q6, .ref q7, .ref q8, .ref q9, .ref q10, .ref q11, .int 0])), (q2, .inl (c2, (8, .inr (.inl (fun _ => 0))))), (q3, .inl (c3, (8, .inr (.inl (fun _ => 0))))), (q4, .inl (c4, (8, .inl (fun _ => 0)))), (q5, .inl (c5, (8, .inl (fun _ => 0)))), (q6, .inl (c6, (8, .inl (fun _ => 0)))), (q7, .inl (c7, (8, .inl (fun _ => 0)))), (q8, .inl (c8, (64, .inr (.inl (fun _ => 0))))), (q9, .inl (c9, (64, .inr (.inl (fun _ => 0))))), (q10, .inl (c10, (64, .inr (.inl (fun _ => 0))))), (q11, .inl (c11, (64, .inl (fun _ => 0)))), (q12, .inr (2, [.ref q13, .int 0])), (q13, .inl (c13, (512, .inl (fun _ => 0))))]) (w1 := [(q14, .inr (2, [.ref q15, .int 0])), (q15, .inl (c15, (512, .inl (fun _ => 0))))]) hP hD [14] [0, 1, 2, 3, 4, 5, 6, 7, 8, 9, 10, 11, 12, 13] rfl rfl (by decide) (by decide) hk1 hFc hP1 hD1
  have hK := hK.app hK1
  generalize H1 = H at hP hS ⊢
  have hP : va_P (dC, dI) xCl [(h0, .inr (0, [.ref q1, .ref q12, .null, .null, .null, .null])), (q1, .inr (1, [.ref q2, .ref q3, .ref q4, .ref q5, .ref q6, .ref q7, .ref q8, .ref q9, .ref q10, .ref q11, .int 0])), (q2, .inl (c2, (8, .inr (.inl (fun _ => 0))))), (q3, .inl (c3, (8, .inr (.inl (fun _ => 0))))), (q4, .inl (c4, (8, .inl (fun _ => 0)))), (q5, .inl (c5, (8, .inl (fun _ => 0)))), (q6, .inl (c6, (8, .inl (fun _ => 0)))), (q7, .inl (c7, (8, .inl (fun _ => 0)))), (q8, .inl (c8, (64, .inr (.inl (fun _ => 0))))), (q9, .inl (c9, (64, .inr (.inl (fun _ => 0))))), (q10, .inl (c10, (64, .inr (.inl (fun _ => 0))))), (q11, .inl (c11, (64, .inl (fun _ => 0)))), (q12, .inr (2, [.ref q13, .int 0])), (q13, .inl (c13, (512, .inl (fun _ => 0)))), (q14, .inr (2, [.ref q15, .int 0])), (q15, .inl (c15, (512, .inl (fun _ => 0))))] H := hP
  have hD : va_D A [(h0, .inr (0, [.ref q1, .ref q12, .null, .null, .null, .null])), (q1, .inr (1, [.ref q2, .ref q3, .ref q4, .ref q5, .ref q6, .ref q7, .ref q8, .ref q9, .ref q10, .ref q11, .int 0])), (q2, .inl (c2, (8, .inr (.inl (fun _ => 0))))), (q3, .inl (c3, (8, .inr (.inl (fun _ => 0))))), (q4, .inl (c4, (8, .inl (fun _ => 0)))), (q5, .inl (c5, (8, .inl (fun _ => 0)))), (q6, .inl (c6, (8, .inl (fun _ => 0)))), (q7, .inl (c7, (8, .inl (fun _ => 0)))), (q8, .inl (c8, (64, .inr (.inl (fun _ => 0))))), (q9, .inl (c9, (64, .inr (.inl (fun _ => 0))))), (q10, .inl (c10, (64, .inr (.inl (fun _ => 0))))), (q11, .inl (c11, (64, .inl (fun _ => 0)))), (q12, .inr (2, [.ref q13, .int 0])), (q13, .inl (c13, (512, .inl (fun _ => 0)))), (q14, .inr (2, [.ref q15, .int 0])), (q15, .inl (c15, (512, .inl (fun _ => 0))))] := hD
  have hK : va_K (dC, dI) xCl [(c2, .long), (c3, .long), (c4, .int), (c5, .boolean), (c6, .int), (c7, .int), (c8, .long), (c9, .long), (c10, .long), (c11, .boolean), (c13, .int), (c15, .int)] s := hK
  refine va_putF (D := (dC, dI)) (ci := 0) (v := .ref q14) (ty := .object "NameMover$ByteRow") (C := RN) (T := FN) (N := 6) hx hb hts tin2_N tN tN_ok nN hown hK hP hD hS 0 rfl rfl 2 (by decide) (hts _ (tc2 tv_152)) (fun _ h9 => h9) rfl hin rfl (by decide +kernel) rfl rfl (Nat.le_of_ble_eq_true rfl) (by decide +kernel : decode prog_1_method_1_code 34 = .ok (.putfield 23, 3)) (fun H locs hP hD hS => ?_)
  have hP : va_P (dC, dI) xCl [(h0, .inr (0, [.ref q1, .ref q12, .ref q14, .null, .null, .null])), (q1, .inr (1, [.ref q2, .ref q3, .ref q4, .ref q5, .ref q6, .ref q7, .ref q8, .ref q9, .ref q10, .ref q11, .int 0])), (q2, .inl (c2, (8, .inr (.inl (fun _ => 0))))), (q3, .inl (c3, (8, .inr (.inl (fun _ => 0))))), (q4, .inl (c4, (8, .inl (fun _ => 0)))), (q5, .inl (c5, (8, .inl (fun _ => 0)))), (q6, .inl (c6, (8, .inl (fun _ => 0)))), (q7, .inl (c7, (8, .inl (fun _ => 0)))), (q8, .inl (c8, (64, .inr (.inl (fun _ => 0))))), (q9, .inl (c9, (64, .inr (.inl (fun _ => 0))))), (q10, .inl (c10, (64, .inr (.inl (fun _ => 0))))), (q11, .inl (c11, (64, .inl (fun _ => 0)))), (q12, .inr (2, [.ref q13, .int 0])), (q13, .inl (c13, (512, .inl (fun _ => 0)))), (q14, .inr (2, [.ref q15, .int 0])), (q15, .inl (c15, (512, .inl (fun _ => 0))))] H := hP
  have hD : va_D A [(h0, .inr (0, [.ref q1, .ref q12, .ref q14, .null, .null, .null])), (q1, .inr (1, [.ref q2, .ref q3, .ref q4, .ref q5, .ref q6, .ref q7, .ref q8, .ref q9, .ref q10, .ref q11, .int 0])), (q2, .inl (c2, (8, .inr (.inl (fun _ => 0))))), (q3, .inl (c3, (8, .inr (.inl (fun _ => 0))))), (q4, .inl (c4, (8, .inl (fun _ => 0)))), (q5, .inl (c5, (8, .inl (fun _ => 0)))), (q6, .inl (c6, (8, .inl (fun _ => 0)))), (q7, .inl (c7, (8, .inl (fun _ => 0)))), (q8, .inl (c8, (64, .inr (.inl (fun _ => 0))))), (q9, .inl (c9, (64, .inr (.inl (fun _ => 0))))), (q10, .inl (c10, (64, .inr (.inl (fun _ => 0))))), (q11, .inl (c11, (64, .inl (fun _ => 0)))), (q12, .inr (2, [.ref q13, .int 0])), (q13, .inl (c13, (512, .inl (fun _ => 0)))), (q14, .inr (2, [.ref q15, .int 0])), (q15, .inl (c15, (512, .inl (fun _ => 0))))] := hD
  refine lv_aload_n hx hb (by decide +kernel : decode prog_1_method_1_code 37 = .ok (.aload_n 0, 1)) rfl (lv_at hl 0 rfl) ?_
  refine va_new (D := (dC, dI)) (cl := xCl) (ci := 3) (fs := [.null, .null, .null, .int 0, .null, .int 0]) (C := RW) (T := FW) (N := 6) hx hb hts (tin2_W) tW tW_ok hown (hts _ (tc2 tv_103)) (hts _ (tc2 tv_104)) (hts _ (tc2 tv_4)) hK hP hD hS hA rfl (by decide +kernel) (by decide : 16 ≤ 23) (by decide : 1349 ≤ 1449) (by decide +kernel : decode prog_1_method_1_code 38 = .ok (.new 26, 3)) (fun q16 H hP hD hS => ?_)
  have hP : va_P (dC, dI) xCl [(h0, .inr (0, [.ref q1, .ref q12, .ref q14, .null, .null, .null])), (q1, .inr (1, [.ref q2, .ref q3, .ref q4, .ref q5, .ref q6, .ref q7, .ref q8, .ref q9, .ref q10, .ref q11, .int 0])), (q2, .inl (c2, (8, .inr (.inl (fun _ => 0))))), (q3, .inl (c3, (8, .inr (.inl (fun _ => 0))))), (q4, .inl (c4, (8, .inl (fun _ => 0)))), (q5, .inl (c5, (8, .inl (fun _ => 0)))), (q6, .inl (c6, (8, .inl (fun _ => 0)))), (q7, .inl (c7, (8, .inl (fun _ => 0)))), (q8, .inl (c8, (64, .inr (.inl (fun _ => 0))))), (q9, .inl (c9, (64, .inr (.inl (fun _ => 0))))), (q10, .inl (c10, (64, .inr (.inl (fun _ => 0))))), (q11, .inl (c11, (64, .inl (fun _ => 0)))), (q12, .inr (2, [.ref q13, .int 0])), (q13, .inl (c13, (512, .inl (fun _ => 0)))), (q14, .inr (2, [.ref q15, .int 0])), (q15, .inl (c15, (512, .inl (fun _ => 0)))), (q16, .inr (3, [.null, .null, .null, .int 0, .null, .int 0]))] H := hP
  have hD : va_D A [(h0, .inr (0, [.ref q1, .ref q12, .ref q14, .null, .null, .null])), (q1, .inr (1, [.ref q2, .ref q3, .ref q4, .ref q5, .ref q6, .ref q7, .ref q8, .ref q9, .ref q10, .ref q11, .int 0])), (q2, .inl (c2, (8, .inr (.inl (fun _ => 0))))), (q3, .inl (c3, (8, .inr (.inl (fun _ => 0))))), (q4, .inl (c4, (8, .inl (fun _ => 0)))), (q5, .inl (c5, (8, .inl (fun _ => 0)))), (q6, .inl (c6, (8, .inl (fun _ => 0)))), (q7, .inl (c7, (8, .inl (fun _ => 0)))), (q8, .inl (c8, (64, .inr (.inl (fun _ => 0))))), (q9, .inl (c9, (64, .inr (.inl (fun _ => 0))))), (q10, .inl (c10, (64, .inr (.inl (fun _ => 0))))), (q11, .inl (c11, (64, .inl (fun _ => 0)))), (q12, .inr (2, [.ref q13, .int 0])), (q13, .inl (c13, (512, .inl (fun _ => 0)))), (q14, .inr (2, [.ref q15, .int 0])), (q15, .inl (c15, (512, .inl (fun _ => 0)))), (q16, .inr (3, [.null, .null, .null, .int 0, .null, .int 0]))] := hD
  refine W.widen (k := 16) (n := 1349) (by omega) (by omega) ?_
  refine lv_dup hx hb (by decide +kernel : decode prog_1_method_1_code 41 = .ok (.dup, 1)) rfl ?_
  refine lv_aload_n hx hb (by decide +kernel : decode prog_1_method_1_code 42 = .ok (.aload_n 0, 1)) rfl (lv_at hl 0 rfl) ?_
  refine va_get (D := (dC, dI)) (ci := 0) (v := .ref q1) (C := RN) (T := FN) (N := 6) hx hb hts tin2_N hown hK hP 0 rfl rfl 0 (by decide) (hts _ (tc2 tv_150)) (fun _ h9 => h9) rfl (by decide +kernel : decode prog_1_method_1_code 43 = .ok (.getfield 10, 3)) ?_
  refine lv_aload_n hx hb (by decide +kernel : decode prog_1_method_1_code 46 = .ok (.aload_n 0, 1)) rfl (lv_at hl 0 rfl) ?_
  refine va_get (D := (dC, dI)) (ci := 0) (v := .ref q12) (C := RN) (T := FN) (N := 6) hx hb hts tin2_N hown hK hP 0 rfl rfl 1 (by decide) (hts _ (tc2 tv_151)) (fun _ h9 => h9) rfl (by decide +kernel : decode prog_1_method_1_code 47 = .ok (.getfield 19, 3)) ?_
  have hPc := hP.sub (ws' := [(q16, .inr (3, [.null, .null, .null, .int 0, .null, .int 0]))]) [16] rfl
  have hDc := hD.sub (ws' := [(q16, .inr (3, [.null, .null, .null, .int 0, .null, .int 0]))]) [16] (by decide) rfl
  have hKc := hK.sub (tys' := []) [] rfl
  have hFc := va_free (wc := [(q16, .inr (3, [.null, .null, .null, .int 0, .null, .int 0]))]) hD hS hA [16] rfl
  refine va_callv (va_runI (As := [.ref q1, .ref q12]) (rest := [.ref q16, .ref h0]) ⟨hx, hb, hml, hown, hts⟩ (c_W_init l dC dI q16 H.size q1 q12) (cwI 2 hts (xt2_good tv_107) rfl rfl rfl (hts _ (tc2 tv_4)) (hts _ (tc2 tv_105)) (hts _ (tc2 tv_106)) rfl ⟨by decide, by decide, by decide +kernel⟩ ⟨Nat.le_of_ble_eq_true rfl, Nat.le_of_ble_eq_true rfl⟩) ⟨fun a U g mk q => by obtain ⟨z0, z1, zP, zK, zD⟩ := q; exact ⟨z0, z1, zP, va_K.moved (u := U) (U := U.calling g mk a) (Vm.Alike.refl U.vm) zK, zD⟩, fun U hU hW => ⟨rfl, by rw [hU], by rw [hU]; exact hPc, va_K.moved hW.alike hKc, hDc.weaken (fun _ _ _ _ => trivial)⟩⟩ rfl rfl hl.1 rfl (lv_room (Nat.le_of_ble_eq_true rfl)) (by decide +kernel : decode prog_1_method_1_code 50 = .ok (.invokespecial 28, 3)) ⟨(by decide : 18 ≤ 23), (by decide : 1386 ≤ 1449)⟩) hS (fun q _ h => hFc q h) hFc (fun u t H1 locs ht hvm hw hB hz1 hk1 hS => ?_)
  obtain ⟨q17, c17, q18, c18, hP1, hK1, hD1⟩ := hB
  rw [ht] at hP1
  have hK1 := va_K.moved hvm.symm hK1
  obtain ⟨hP, hD⟩ := va_join (wr := [(h0, .inr (0, [.ref q1, .ref q12, .ref q14, .null, .null, .null])), (q1, .inr (1, [.ref q2, .ref q3, .ref q4, .ref q5, .ref q6, .ref q7, .ref q8, .ref q9, .ref q10, .ref q11, .int 0])), (q2, .inl (c2, (8, .inr (.inl (fun _ => 0))))), (q3, .inl (c3, (8, .inr (.inl (fun _ => 0))))), (q4, .inl (c4, (8, .inl (fun _ => 0)))), (q5, .inl (c5, (8, .inl (fun _ => 0)))), (q6, .inl (c6, (8, .inl (fun _ => 0)))), (q7, .inl (c7, (8, .inl (fun _ => 0)))), (q8, .inl (c8, (64, .inr (.inl (fun _ => 0))))), (q9, .inl (c9, (64, .inr (.inl (fun _ => 0))))), (q10, .inl (c10, (64, .inr (.inl (fun _ => 0))))), (q11, .inl (c11, (64, .inl (fun _ => 0)))), (q12, .inr (2, [.ref q13, .int 0])), (q13, .inl (c13, (512, .inl (fun _ => 0)))), (q14, .inr (2, [.ref q15, .int 0])), (q15, .inl (c15, (512, .inl (fun _ => 0))))]) (w1 := [(q16, .inr (3, [.ref q1, .ref q12, .ref q17, .int 0, .ref q18, .int 0])), (q17, .inl (c17, (22, .inl (fun _ => 0)))), (q18, .inl (c18, (15, .inl (fun _ => 0))))]) hP hD [16] [0, 1, 2, 3, 4, 5, 6, 7, 8, 9, 10, 11, 12, 13, 14, 15] rfl rfl (by decide) (by decide) hk1 hFc hP1 hD1
  have hK := hK.app hK1
  generalize H1 = H at hP hS ⊢
  have hP : va_P (dC, dI) xCl [(h0, .inr (0, [.ref q1, .ref q12, .ref q14, .null, .null, .null])), (q1, .inr (1, [.ref q2, .ref q3, .ref q4, .ref q5, .ref q6, .ref q7, .ref q8, .ref q9, .ref q10, .ref q11, .int 0])), (q2, .inl (c2, (8, .inr (.inl (fun _ => 0))))), (q3, .inl (c3, (8, .inr (.inl (fun _ => 0))))), (q4, .inl (c4, (8, .inl (fun _ => 0)))), (q5, .inl (c5, (8, .inl (fun _ => 0)))), (q6, .inl (c6, (8, .inl (fun _ => 0)))), (q7, .inl (c7, (8, .inl (fun _ => 0)))), (q8, .inl (c8, (64, .inr (.inl (fun _ => 0))))), (q9, .inl (c9, (64, .inr (.inl (fun _ => 0))))), (q10, .inl (c10, (64, .inr (.inl (fun _ => 0))))), (q11, .inl (c11, (64, .inl (fun _ => 0)))), (q12, .inr (2, [.ref q13, .int 0])), (q13, .inl (c13, (512, .inl (fun _ => 0)))), (q14, .inr (2, [.ref q15, .int 0])), (q15, .inl (c15, (512, .inl (fun _ => 0)))), (q16, .inr (3, [.ref q1, .ref q12, .ref q17, .int 0, .ref q18, .int 0])), (q17, .inl (c17, (22, .inl (fun _ => 0)))), (q18, .inl (c18, (15, .inl (fun _ => 0))))] H := hP
  have hD : va_D A [(h0, .inr (0, [.ref q1, .ref q12, .ref q14, .null, .null, .null])), (q1, .inr (1, [.ref q2, .ref q3, .ref q4, .ref q5, .ref q6, .ref q7, .ref q8, .ref q9, .ref q10, .ref q11, .int 0])), (q2, .inl (c2, (8, .inr (.inl (fun _ => 0))))), (q3, .inl (c3, (8, .inr (.inl (fun _ => 0))))), (q4, .inl (c4, (8, .inl (fun _ => 0)))), (q5, .inl (c5, (8, .inl (fun _ => 0)))), (q6, .inl (c6, (8, .inl (fun _ => 0)))), (q7, .inl (c7, (8, .inl (fun _ => 0)))), (q8, .inl (c8, (64, .inr (.inl (fun _ => 0))))), (q9, .inl (c9, (64, .inr (.inl (fun _ => 0))))), (q10, .inl (c10, (64, .inr (.inl (fun _ => 0))))), (q11, .inl (c11, (64, .inl (fun _ => 0)))), (q12, .inr (2, [.ref q13, .int 0])), (q13, .inl (c13, (512, .inl (fun _ => 0)))), (q14, .inr (2, [.ref q15, .int 0])), (q15, .inl (c15, (512, .inl (fun _ => 0)))), (q16, .inr (3, [.ref q1, .ref q12, .ref q17, .int 0, .ref q18, .int 0])), (q17, .inl (c17, (22, .inl (fun _ => 0)))), (q18, .inl (c18, (15, .inl (fun _ => 0))))] := hD
  have hK : va_K (dC, dI) xCl [(c2, .long), (c3, .long), (c4, .int), (c5, .boolean), (c6, .int), (c7, .int), (c8, .long), (c9, .long), (c10, .long), (c11, .boolean), (c13, .int), (c15, .int), (c17, .int), (c18, .int)] s := hK
  refine va_putF (D := (dC, dI)) (ci := 0) (v := .ref q16) (ty := .object "NameMover$ClassWriter") (C := RN) (T := FN) (N := 6) hx hb hts tin2_N tN tN_ok nN hown hK hP hD hS 0 rfl rfl 3 (by decide) (hts _ (tc2 tv_153)) (fun _ h9 => h9) rfl hin rfl (by decide +kernel) rfl rfl (Nat.le_of_ble_eq_true rfl) (by decide +kernel : decode prog_1_method_1_code 53 = .ok (.putfield 31, 3)) (fun H locs hP hD hS => ?_)
  have hP : va_P (dC, dI) xCl [(h0, .inr (0, [.ref q1, .ref q12, .ref q14, .ref q16, .null, .null])), (q1, .inr (1, [.ref q2, .ref q3, .ref q4, .ref q5, .ref q6, .ref q7, .ref q8, .ref q9, .ref q10, .ref q11, .int 0])), (q2, .inl (c2, (8, .inr (.inl (fun _ => 0))))), (q3, .inl (c3, (8, .inr (.inl (fun _ => 0))))), (q4, .inl (c4, (8, .inl (fun _ => 0)))), (q5, .inl (c5, (8, .inl (fun _ => 0)))), (q6, .inl (c6, (8, .inl (fun _ => 0)))), (q7, .inl (c7, (8, .inl (fun _ => 0)))), (q8, .inl (c8, (64, .inr (.inl (fun _ => 0))))), (q9, .inl (c9, (64, .inr (.inl (fun _ => 0))))), (q10, .inl (c10, (64, .inr (.inl (fun _ => 0))))), (q11, .inl (c11, (64, .inl (fun _ => 0)))), (q12, .inr (2, [.ref q13, .int 0])), (q13, .inl (c13, (512, .inl (fun _ => 0)))), (q14, .inr (2, [.ref q15, .int 0])), (q15, .inl (c15, (512, .inl (fun _ => 0)))), (q16, .inr (3, [.ref q1, .ref q12, .ref q17, .int 0, .ref q18, .int 0])), (q17, .inl (c17, (22, .inl (fun _ => 0)))), (q18, .inl (c18, (15, .inl (fun _ => 0))))] H := hP
  have hD : va_D A [(h0, .inr (0, [.ref q1, .ref q12, .ref q14, .ref q16, .null, .null])), (q1, .inr (1, [.ref q2, .ref q3, .ref q4, .ref q5, .ref q6, .ref q7, .ref q8, .ref q9, .ref q10, .ref q11, .int 0])), (q2, .inl (c2, (8, .inr (.inl (fun _ => 0))))), (q3, .inl (c3, (8, .inr (.inl (fun _ => 0))))), (q4, .inl (c4, (8, .inl (fun _ => 0)))), (q5, .inl (c5, (8, .inl (fun _ => 0)))), (q6, .inl (c6, (8, .inl (fun _ => 0)))), (q7, .inl (c7, (8, .inl (fun _ => 0)))), (q8, .inl (c8, (64, .inr (.inl (fun _ => 0))))), (q9, .inl (c9, (64, .inr (.inl (fun _ => 0))))), (q10, .inl (c10, (64, .inr (.inl (fun _ => 0))))), (q11, .inl (c11, (64, .inl (fun _ => 0)))), (q12, .inr (2, [.ref q13, .int 0])), (q13, .inl (c13, (512, .inl (fun _ => 0)))), (q14, .inr (2, [.ref q15, .int 0])), (q15, .inl (c15, (512, .inl (fun _ => 0)))), (q16, .inr (3, [.ref q1, .ref q12, .ref q17, .int 0, .ref q18, .int 0])), (q17, .inl (c17, (22, .inl (fun _ => 0)))), (q18, .inl (c18, (15, .inl (fun _ => 0))))] := hD
  refine lv_aload_n hx hb (by decide +kernel : decode prog_1_method_1_code 56 = .ok (.aload_n 0, 1)) rfl (lv_at hl 0 rfl) ?_
  refine va_new (D := (dC, dI)) (cl := xCl) (ci := 3) (fs := [.null, .null, .null, .int 0, .null, .int 0]) (C := RW) (T := FW) (N := 6) hx hb hts (tin2_W) tW tW_ok hown (hts _ (tc2 tv_103)) (hts _ (tc2 tv_104)) (hts _ (tc2 tv_4)) hK hP hD hS hA rfl (by decide +kernel) (by decide : 19 ≤ 23) (by decide : 1392 ≤ 1449) (by decide +kernel : decode prog_1_method_1_code 57 = .ok (.new 26, 3)) (fun q19 H hP hD hS => ?_)
  have hP : va_P (dC, dI) xCl [(h0, .inr (0, [.ref q1, .ref q12, .ref q14, .ref q16, .null, .null])), (q1, .inr (1, [.ref q2, .ref q3, .ref q4, .ref q5, .ref q6, .ref q7, .ref q8, .ref q9, .ref q10, .ref q11, .int 0])), (q2, .inl (c2, (8, .inr (.inl (fun _ => 0))))), (q3, .inl (c3, (8, .inr (.inl (fun _ => 0))))), (q4, .inl (c4, (8, .inl (fun _ => 0)))), (q5, .inl (c5, (8, .inl (fun _ => 0)))), (q6, .inl (c6, (8, .inl (fun _ => 0)))), (q7, .inl (c7, (8, .inl (fun _ => 0)))), (q8, .inl (c8, (64, .inr (.inl (fun _ => 0))))), (q9, .inl (c9, (64, .inr (.inl (fun _ => 0))))), (q10, .inl (c10, (64, .inr (.inl (fun _ => 0))))), (q11, .inl (c11, (64, .inl (fun _ => 0)))), (q12, .inr (2, [.ref q13, .int 0])), (q13, .inl (c13, (512, .inl (fun _ => 0)))), (q14, .inr (2, [.ref q15, .int 0])), (q15, .inl (c15, (512, .inl (fun _ => 0)))), (q16, .inr (3, [.ref q1, .ref q12, .ref q17, .int 0, .ref q18, .int 0])), (q17, .inl (c17, (22, .inl (fun _ => 0)))), (q18, .inl (c18, (15, .inl (fun _ => 0)))), (q19, .inr (3, [.null, .null, .null, .int 0, .null, .int 0]))] H := hP
  have hD : va_D A [(h0, .inr (0, [.ref q1, .ref q12, .ref q14, .ref q16, .null, .null])), (q1, .inr (1, [.ref q2, .ref q3, .ref q4, .ref q5, .ref q6, .ref q7, .ref q8, .ref q9, .ref q10, .ref q11, .int 0])), (q2, .inl (c2, (8, .inr (.inl (fun _ => 0))))), (q3, .inl (c3, (8, .inr (.inl (fun _ => 0))))), (q4, .inl (c4, (8, .inl (fun _ => 0)))), (q5, .inl (c5, (8, .inl (fun _ => 0)))), (q6, .inl (c6, (8, .inl (fun _ => 0)))), (q7, .inl (c7, (8, .inl (fun _ => 0)))), (q8, .inl (c8, (64, .inr (.inl (fun _ => 0))))), (q9, .inl (c9, (64, .inr (.inl (fun _ => 0))))), (q10, .inl (c10, (64, .inr (.inl (fun _ => 0))))), (q11, .inl (c11, (64, .inl (fun _ => 0)))), (q12, .inr (2, [.ref q13, .int 0])), (q13, .inl (c13, (512, .inl (fun _ => 0)))), (q14, .inr (2, [.ref q15, .int 0])), (q15, .inl (c15, (512, .inl (fun _ => 0)))), (q16, .inr (3, [.ref q1, .ref q12, .ref q17, .int 0, .ref q18, .int 0])), (q17, .inl (c17, (22, .inl (fun _ => 0)))), (q18, .inl (c18, (15, .inl (fun _ => 0)))), (q19, .inr (3, [.null, .null, .null, .int 0, .null, .int 0]))] := hD
  refine W.widen (k := 19) (n := 1392) (by omega) (by omega) ?_
  refine lv_dup hx hb (by decide +kernel : decode prog_1_method_1_code 60 = .ok (.dup, 1)) rfl ?_
  refine lv_aload_n hx hb (by decide +kernel : decode prog_1_method_1_code 61 = .ok (.aload_n 0, 1)) rfl (lv_at hl 0 rfl) ?_
  refine va_get (D := (dC, dI)) (ci := 0) (v := .ref q1) (C := RN) (T := FN) (N := 6) hx hb hts tin2_N hown hK hP 0 rfl rfl 0 (by decide) (hts _ (tc2 tv_150)) (fun _ h9 => h9) rfl (by decide +kernel : decode prog_1_method_1_code 62 = .ok (.getfield 10, 3)) ?_
  refine lv_aload_n hx hb (by decide +kernel : decode prog_1_method_1_code 65 = .ok (.aload_n 0, 1)) rfl (lv_at hl 0 rfl) ?_
  refine va_get (D := (dC, dI)) (ci := 0) (v := .ref q14) (C := RN) (T := FN) (N := 6) hx hb hts tin2_N hown hK hP 0 rfl rfl 2 (by decide) (hts _ (tc2 tv_152)) (fun _ h9 => h9) rfl (by decide +kernel : decode prog_1_method_1_code 66 = .ok (.getfield 23, 3)) ?_
  have hPc := hP.sub (ws' := [(q19, .inr (3, [.null, .null, .null, .int 0, .null, .int 0]))]) [19] rfl
  have hDc := hD.sub (ws' := [(q19, .inr (3, [.null, .null, .null, .int 0, .null, .int 0]))]) [19] (by decide) rfl
  have hKc := hK.sub (tys' := []) [] rfl
  have hFc := va_free (wc := [(q19, .inr (3, [.null, .null, .null, .int 0, .null, .int 0]))]) hD hS hA [19] rfl
  refine va_callv (va_runI (As := [.ref q1, .ref q14]) (rest := [.ref q19, .ref h0]) ⟨hx, hb, hml, hown, hts⟩ (c_W_init l dC dI q19 H.size q1 q14) (cwI 2 hts (xt2_good tv_107) rfl rfl rfl (hts _ (tc2 tv_4)) (hts _ (tc2 tv_105)) (hts _ (tc2 tv_106)) rfl ⟨by decide, by decide, by decide +kernel⟩ ⟨Nat.le_of_ble_eq_true rfl, Nat.le_of_ble_eq_true rfl⟩) ⟨fun a U g mk q => by obtain ⟨z0, z1, zP, zK, zD⟩ := q; exact ⟨z0, z1, zP, va_K.moved (u := U) (U := U.calling g mk a) (Vm.Alike.refl U.vm) zK, zD⟩, fun U hU hW => ⟨rfl, by rw [hU], by rw [hU]; exact hPc, va_K.moved hW.alike hKc, hDc.weaken (fun _ _ _ _ => trivial)⟩⟩ rfl rfl hl.1 rfl (lv_room (Nat.le_of_ble_eq_true rfl)) (by decide +kernel : decode prog_1_method_1_code 69 = .ok (.invokespecial 28, 3)) ⟨(by decide : 21 ≤ 23), (by decide : 1429 ≤ 1449)⟩) hS (fun q _ h => hFc q h) hFc (fun u t H1 locs ht hvm hw hB hz1 hk1 hS => ?_)
  obtain ⟨q20, c20, q21, c21, hP1, hK1, hD1⟩ := hB
  rw [ht] at hP1
  have hK1 := va_K.moved hvm.symm hK1
  obtain ⟨hP, hD⟩ := va_join (wr := [(h0, .inr (0, [.ref q1, .ref q12, .ref q14, .ref q16, .null, .null])), (q1, .inr (1, [.ref q2, .ref q3, .ref q4, .ref q5, .ref q6, .ref q7, .ref q8, .ref q9, .ref q10, .ref q11, .int 0])), (q2, .inl (c2, (8, .inr (.inl (fun _ => 0))))), (q3, .inl (c3, (8, .inr (.inl (fun _ => 0))))), (q4, .inl (c4, (8, .inl (fun _ => 0)))), (q5, .inl (c5, (8, .inl (fun _ => 0)))), (q6, .inl (c6, (8, .inl (fun _ => 0)))), (q7, .inl (c7, (8, .inl (fun _ => 0)))), (q8, .inl (c8, (64, .inr (.inl (fun _ => 0))))), (q9, .inl (c9, (64, .inr (.inl (fun _ => 0))))), (q10, .inl (c10, (64, .inr (.inl (fun _ => 0))))), (q11, .inl (c11, (64, .inl (fun _ => 0)))), (q12, .inr (2, [.ref q13, .int 0])), (q13, .inl (c13, (512, .inl (fun _ => 0)))), (q14, .inr (2, [.ref q15, .int 0])), (q15, .inl (c15, (512, .inl (fun _ => 0)))), (q16, .inr (3, [.ref q1, .ref q12, .ref q17, .int 0, .ref q18, .int 0])), (q17, .inl (c17, (22, .inl (fun _ => 0)))), (q18, .inl (c18, (15, .inl (fun _ => 0))))]) (w1 := [(q19, .inr (3, [.ref q1, .ref q14, .ref q20, .int 0, .ref q21, .int 0])), (q20, .inl (c20, (22, .inl (fun _ => 0)))), (q21, .inl (c21, (15, .inl (fun _ => 0))))]) hP hD [19] [0, 1, 2, 3, 4, 5, 6, 7, 8, 9, 10, 11, 12, 13, 14, 15, 16, 17, 18] rfl rfl (by decide) (by decide) hk1 hFc hP1 hD1
  have hK := hK.app hK1
  generalize H1 = H at hP hS ⊢
  have hP : va_P (dC, dI) xCl [(h0, .inr (0, [.ref q1, .ref q12, .ref q14, .ref q16, .null, .null])), (q1, .inr (1, [.ref q2, .ref q3, .ref q4, .ref q5, .ref q6, .ref q7, .ref q8, .ref q9, .ref q10, .ref q11, .int 0])), (q2, .inl (c2, (8, .inr (.inl (fun _ => 0))))), (q3, .inl (c3, (8, .inr (.inl (fun _ => 0))))), (q4, .inl (c4, (8, .inl (fun _ => 0)))), (q5, .inl (c5, (8, .inl (fun _ => 0)))), (q6, .inl (c6, (8, .inl (fun _ => 0)))), (q7, .inl (c7, (8, .inl (fun _ => 0)))), (q8, .inl (c8, (64, .inr (.inl (fun _ => 0))))), (q9, .inl (c9, (64, .inr (.inl (fun _ => 0))))), (q10, .inl (c10, (64, .inr (.inl (fun _ => 0))))), (q11, .inl (c11, (64, .inl (fun _ => 0)))), (q12, .inr (2, [.ref q13, .int 0])), (q13, .inl (c13, (512, .inl (fun _ => 0)))), (q14, .inr (2, [.ref q15, .int 0])), (q15, .inl (c15, (512, .inl (fun _ => 0)))), (q16, .inr (3, [.ref q1, .ref q12, .ref q17, .int 0, .ref q18, .int 0])), (q17, .inl (c17, (22, .inl (fun _ => 0)))), (q18, .inl (c18, (15, .inl (fun _ => 0)))), (q19, .inr (3, [.ref q1, .ref q14, .ref q20, .int 0, .ref q21, .int 0])), (q20, .inl (c20, (22, .inl (fun _ => 0)))), (q21, .inl (c21, (15, .inl (fun _ => 0))))] H := hP
  have hD : va_D A [(h0, .inr (0, [.ref q1, .ref q12, .ref q14, .ref q16, .null, .null])), (q1, .inr (1, [.ref q2, .ref q3, .ref q4, .ref q5, .ref q6, .ref q7, .ref q8, .ref q9, .ref q10, .ref q11, .int 0])), (q2, .inl (c2, (8, .inr (.inl (fun _ => 0))))), (q3, .inl (c3, (8, .inr (.inl (fun _ => 0))))), (q4, .inl (c4, (8, .inl (fun _ => 0)))), (q5, .inl (c5, (8, .inl (fun _ => 0)))), (q6, .inl (c6, (8, .inl (fun _ => 0)))), (q7, .inl (c7, (8, .inl (fun _ => 0)))), (q8, .inl (c8, (64, .inr (.inl (fun _ => 0))))), (q9, .inl (c9, (64, .inr (.inl (fun _ => 0))))), (q10, .inl (c10, (64, .inr (.inl (fun _ => 0))))), (q11, .inl (c11, (64, .inl (fun _ => 0)))), (q12, .inr (2, [.ref q13, .int 0])), (q13, .inl (c13, (512, .inl (fun _ => 0)))), (q14, .inr (2, [.ref q15, .int 0])), (q15, .inl (c15, (512, .inl (fun _ => 0)))), (q16, .inr (3, [.ref q1, .ref q12, .ref q17, .int 0, .ref q18, .int 0])), (q17, .inl (c17, (22, .inl (fun _ => 0)))), (q18, .inl (c18, (15, .inl (fun _ => 0)))), (q19, .inr (3, [.ref q1, .ref q14, .ref q20, .int 0, .ref q21, .int 0])), (q20, .inl (c20, (22, .inl (fun _ => 0)))), (q21, .inl (c21, (15, .inl (fun _ => 0))))] := hD
  have hK : va_K (dC, dI) xCl [(c2, .long), (c3, .long), (c4, .int), (c5, .boolean), (c6, .int), (c7, .int), (c8, .long), (c9, .long), (c10, .long), (c11, .boolean), (c13, .int), (c15, .int), (c17, .int), (c18, .int), (c20, .int), (c21, .int)] s := hK
  refine va_putF (D := (dC, dI)) (ci := 0) (v := .ref q19) (ty := .object "NameMover$ClassWriter") (C := RN) (T := FN) (N := 6) hx hb hts tin2_N tN tN_ok nN hown hK hP hD hS 0 rfl rfl 4 (by decide) (hts _ (tc2 tv_154)) (fun _ h9 => h9) rfl hin rfl (by decide +kernel) rfl rfl (Nat.le_of_ble_eq_true rfl) (by decide +kernel : decode prog_1_method_1_code 72 = .ok (.putfield 35, 3)) (fun H locs hP hD hS => ?_)
  have hP : va_P (dC, dI) xCl [(h0, .inr (0, [.ref q1, .ref q12, .ref q14, .ref q16, .ref q19, .null])), (q1, .inr (1, [.ref q2, .ref q3, .ref q4, .ref q5, .ref q6, .ref q7, .ref q8, .ref q9, .ref q10, .ref q11, .int 0])), (q2, .inl (c2, (8, .inr (.inl (fun _ => 0))))), (q3, .inl (c3, (8, .inr (.inl (fun _ => 0))))), (q4, .inl (c4, (8, .inl (fun _ => 0)))), (q5, .inl (c5, (8, .inl (fun _ => 0)))), (q6, .inl (c6, (8, .inl (fun _ => 0)))), (q7, .inl (c7, (8, .inl (fun _ => 0)))), (q8, .inl (c8, (64, .inr (.inl (fun _ => 0))))), (q9, .inl (c9, (64, .inr (.inl (fun _ => 0))))), (q10, .inl (c10, (64, .inr (.inl (fun _ => 0))))), (q11, .inl (c11, (64, .inl (fun _ => 0)))), (q12, .inr (2, [.ref q13, .int 0])), (q13, .inl (c13, (512, .inl (fun _ => 0)))), (q14, .inr (2, [.ref q15, .int 0])), (q15, .inl (c15, (512, .inl (fun _ => 0)))), (q16, .inr (3, [.ref q1, .ref q12, .ref q17, .int 0, .ref q18, .int 0])), (q17, .inl (c17, (22, .inl (fun _ => 0)))), (q18, .inl (c18, (15, .inl (fun _ => 0)))), (q19, .inr (3, [.ref q1, .ref q14, .ref q20, .int 0, .ref q21, .int 0])), (q20, .inl (c20, (22, .inl (fun _ => 0)))), (q21, .inl (c21, (15, .inl (fun _ => 0))))] H := hP
  have hD : va_D A [(h0, .inr (0, [.ref q1, .ref q12, .ref q14, .ref q16, .ref q19, .null])), (q1, .inr (1, [.ref q2, .ref q3, .ref q4, .ref q5, .ref q6, .ref q7, .ref q8, .ref q9, .ref q10, .ref q11, .int 0])), (q2, .inl (c2, (8, .inr (.inl (fun _ => 0))))), (q3, .inl (c3, (8, .inr (.inl (fun _ => 0))))), (q4, .inl (c4, (8, .inl (fun _ => 0)))), (q5, .inl (c5, (8, .inl (fun _ => 0)))), (q6, .inl (c6, (8, .inl (fun _ => 0)))), (q7, .inl (c7, (8, .inl (fun _ => 0)))), (q8, .inl (c8, (64, .inr (.inl (fun _ => 0))))), (q9, .inl (c9, (64, .inr (.inl (fun _ => 0))))), (q10, .inl (c10, (64, .inr (.inl (fun _ => 0))))), (q11, .inl (c11, (64, .inl (fun _ => 0)))), (q12, .inr (2, [.ref q13, .int 0])), (q13, .inl (c13, (512, .inl (fun _ => 0)))), (q14, .inr (2, [.ref q15, .int 0])), (q15, .inl (c15, (512, .inl (fun _ => 0)))), (q16, .inr (3, [.ref q1, .ref q12, .ref q17, .int 0, .ref q18, .int 0])), (q17, .inl (c17, (22, .inl (fun _ => 0)))), (q18, .inl (c18, (15, .inl (fun _ => 0)))), (q19, .inr (3, [.ref q1, .ref q14, .ref q20, .int 0, .ref q21, .int 0])), (q20, .inl (c20, (22, .inl (fun _ => 0)))), (q21, .inl (c21, (15, .inl (fun _ => 0))))] := hD
  refine lv_aload_n hx hb (by decide +kernel : decode prog_1_method_1_code 75 = .ok (.aload_n 0, 1)) rfl (lv_at hl 0 rfl) ?_
  refine va_new (D := (dC, dI)) (cl := xCl) (ci := 4) (fs := [.null, .null, .null, .int 0, .int 0]) (C := RR) (T := FR) (N := 5) hx hb hts (tin2_R) tR tR_ok hown (hts _ (tc2 tv_128)) (hts _ (tc2 tv_129)) (hts _ (tc2 tv_5)) hK hP hD hS hA rfl (by decide +kernel) (by decide : 22 ≤ 23) (by decide : 1434 ≤ 1449) (by decide +kernel : decode prog_1_method_1_code 76 = .ok (.new 38, 3)) (fun q22 H hP hD hS => ?_)
  have hP : va_P (dC, dI) xCl [(h0, .inr (0, [.ref q1, .ref q12, .ref q14, .ref q16, .ref q19, .null])), (q1, .inr (1, [.ref q2, .ref q3, .ref q4, .ref q5, .ref q6, .ref q7, .ref q8, .ref q9, .ref q10, .ref q11, .int 0])), (q2, .inl (c2, (8, .inr (.inl (fun _ => 0))))), (q3, .inl (c3, (8, .inr (.inl (fun _ => 0))))), (q4, .inl (c4, (8, .inl (fun _ => 0)))), (q5, .inl (c5, (8, .inl (fun _ => 0)))), (q6, .inl (c6, (8, .inl (fun _ => 0)))), (q7, .inl (c7, (8, .inl (fun _ => 0)))), (q8, .inl (c8, (64, .inr (.inl (fun _ => 0))))), (q9, .inl (c9, (64, .inr (.inl (fun _ => 0))))), (q10, .inl (c10, (64, .inr (.inl (fun _ => 0))))), (q11, .inl (c11, (64, .inl (fun _ => 0)))), (q12, .inr (2, [.ref q13, .int 0])), (q13, .inl (c13, (512, .inl (fun _ => 0)))), (q14, .inr (2, [.ref q15, .int 0])), (q15, .inl (c15, (512, .inl (fun _ => 0)))), (q16, .inr (3, [.ref q1, .ref q12, .ref q17, .int 0, .ref q18, .int 0])), (q17, .inl (c17, (22, .inl (fun _ => 0)))), (q18, .inl (c18, (15, .inl (fun _ => 0)))), (q19, .inr (3, [.ref q1, .ref q14, .ref q20, .int 0, .ref q21, .int 0])), (q20, .inl (c20, (22, .inl (fun _ => 0)))), (q21, .inl (c21, (15, .inl (fun _ => 0)))), (q22, .inr (4, [.null, .null, .null, .int 0, .int 0]))] H := hP
  have hD : va_D A [(h0, .inr (0, [.ref q1, .ref q12, .ref q14, .ref q16, .ref q19, .null])), (q1, .inr (1, [.ref q2, .ref q3, .ref q4, .ref q5, .ref q6, .ref q7, .ref q8, .ref q9, .ref q10, .ref q11, .int 0])), (q2, .inl (c2, (8, .inr (.inl (fun _ => 0))))), (q3, .inl (c3, (8, .inr (.inl (fun _ => 0))))), (q4, .inl (c4, (8, .inl (fun _ => 0)))), (q5, .inl (c5, (8, .inl (fun _ => 0)))), (q6, .inl (c6, (8, .inl (fun _ => 0)))), (q7, .inl (c7, (8, .inl (fun _ => 0)))), (q8, .inl (c8, (64, .inr (.inl (fun _ => 0))))), (q9, .inl (c9, (64, .inr (.inl (fun _ => 0))))), (q10, .inl (c10, (64, .inr (.inl (fun _ => 0))))), (q11, .inl (c11, (64, .inl (fun _ => 0)))), (q12, .inr (2, [.ref q13, .int 0])), (q13, .inl (c13, (512, .inl (fun _ => 0)))), (q14, .inr (2, [.ref q15, .int 0])), (q15, .inl (c15, (512, .inl (fun _ => 0)))), (q16, .inr (3, [.ref q1, .ref q12, .ref q17, .int 0, .ref q18, .int 0])), (q17, .inl (c17, (22, .inl (fun _ => 0)))), (q18, .inl (c18, (15, .inl (fun _ => 0)))), (q19, .inr (3, [.ref q1, .ref q14, .ref q20, .int 0, .ref q21, .int 0])), (q20, .inl (c20, (22, .inl (fun _ => 0)))), (q21, .inl (c21, (15, .inl (fun _ => 0)))), (q22, .inr (4, [.null, .null, .null, .int 0, .int 0]))] := hD
  refine W.widen (k := 22) (n := 1434) (by omega) (by omega) ?_
  refine lv_dup hx hb (by decide +kernel : decode prog_1_method_1_code 79 = .ok (.dup, 1)) rfl ?_
  refine lv_aload_n hx hb (by decide +kernel : decode prog_1_method_1_code 80 = .ok (.aload_n 0, 1)) rfl (lv_at hl 0 rfl) ?_
  refine va_get (D := (dC, dI)) (ci := 0) (v := .ref q1) (C := RN) (T := FN) (N := 6) hx hb hts tin2_N hown hK hP 0 rfl rfl 0 (by decide) (hts _ (tc2 tv_150)) (fun _ h9 => h9) rfl (by decide +kernel : decode prog_1_method_1_code 81 = .ok (.getfield 10, 3)) ?_
  refine lv_aload_n hx hb (by decide +kernel : decode prog_1_method_1_code 84 = .ok (.aload_n 0, 1)) rfl (lv_at hl 0 rfl) ?_
  refine va_get (D := (dC, dI)) (ci := 0) (v := .ref q12) (C := RN) (T := FN) (N := 6) hx hb hts tin2_N hown hK hP 0 rfl rfl 1 (by decide) (hts _ (tc2 tv_151)) (fun _ h9 => h9) rfl (by decide +kernel : decode prog_1_method_1_code 85 = .ok (.getfield 19, 3)) ?_
  have hPc := hP.sub (ws' := [(q22, .inr (4, [.null, .null, .null, .int 0, .int 0]))]) [22] rfl
  have hDc := hD.sub (ws' := [(q22, .inr (4, [.null, .null, .null, .int 0, .int 0]))]) [22] (by decide) rfl
  have hKc := hK.sub (tys' := []) [] rfl
  have hFc := va_free (wc := [(q22, .inr (4, [.null, .null, .null, .int 0, .int 0]))]) hD hS hA [22] rfl
  refine va_callv (va_runI (As := [.ref q1, .ref q12]) (rest := [.ref q22, .ref h0]) ⟨hx, hb, hml, hown, hts⟩ (c_R_init l dC dI q22 H.size q1 q12) (cwI 2 hts (xt2_good tv_132) rfl rfl rfl (hts _ (tc2 tv_5)) (hts _ (tc2 tv_130)) (hts _ (tc2 tv_131)) rfl ⟨by decide, by decide, by decide +kernel⟩ ⟨Nat.le_of_ble_eq_true rfl, Nat.le_of_ble_eq_true rfl⟩) ⟨fun a U g mk q => by obtain ⟨z0, z1, zP, zK, zD⟩ := q; exact ⟨z0, z1, zP, va_K.moved (u := U) (U := U.calling g mk a) (Vm.Alike.refl U.vm) zK, zD⟩, fun U hU hW => ⟨rfl, by rw [hU], by rw [hU]; exact hPc, va_K.moved hW.alike hKc, hDc.weaken (fun _ _ _ _ => trivial)⟩⟩ rfl rfl hl.1 rfl (lv_room (Nat.le_of_ble_eq_true rfl)) (by decide +kernel : decode prog_1_method_1_code 88 = .ok (.invokespecial 40, 3)) ⟨(by decide : 23 ≤ 23), (by decide : 1449 ≤ 1449)⟩) hS (fun q _ h => hFc q h) hFc (fun u t H1 locs ht hvm hw hB hz1 hk1 hS => ?_)
  obtain ⟨q23, c23, hP1, hK1, hD1⟩ := hB
  rw [ht] at hP1
  have hK1 := va_K.moved hvm.symm hK1
  obtain ⟨hP, hD⟩ := va_join (wr := [(h0, .inr (0, [.ref q1, .ref q12, .ref q14, .ref q16, .ref q19, .null])), (q1, .inr (1, [.ref q2, .ref q3, .ref q4, .ref q5, .ref q6, .ref q7, .ref q8, .ref q9, .ref q10, .ref q11, .int 0])), (q2, .inl (c2, (8, .inr (.inl (fun _ => 0))))), (q3, .inl (c3, (8, .inr (.inl (fun _ => 0))))), (q4, .inl (c4, (8, .inl (fun _ => 0)))), (q5, .inl (c5, (8, .inl (fun _ => 0)))), (q6, .inl (c6, (8, .inl (fun _ => 0)))), (q7, .inl (c7, (8, .inl (fun _ => 0)))), (q8, .inl (c8, (64, .inr (.inl (fun _ => 0))))), (q9, .inl (c9, (64, .inr (.inl (fun _ => 0))))), (q10, .inl (c10, (64, .inr (.inl (fun _ => 0))))), (q11, .inl (c11, (64, .inl (fun _ => 0)))), (q12, .inr (2, [.ref q13, .int 0])), (q13, .inl (c13, (512, .inl (fun _ => 0)))), (q14, .inr (2, [.ref q15, .int 0])), (q15, .inl (c15, (512, .inl (fun _ => 0)))), (q16, .inr (3, [.ref q1, .ref q12, .ref q17, .int 0, .ref q18, .int 0])), (q17, .inl (c17, (22, .inl (fun _ => 0)))), (q18, .inl (c18, (15, .inl (fun _ => 0)))), (q19, .inr (3, [.ref q1, .ref q14, .ref q20, .int 0, .ref q21, .int 0])), (q20, .inl (c20, (22, .inl (fun _ => 0)))), (q21, .inl (c21, (15, .inl (fun _ => 0))))]) (w1 := [(q22, .inr (4, [.ref q1, .ref q12, .ref q23, .int 0, .int 0])), (q23, .inl (c23, (15, .inl (fun _ => 0))))]) hP hD [22] [0, 1, 2, 3, 4, 5, 6, 7, 8, 9, 10, 11, 12, 13, 14, 15, 16, 17, 18, 19, 20, 21] rfl rfl (by decide) (by decide) hk1 hFc hP1 hD1
  have hK := hK.app hK1
  generalize H1 = H at hP hS ⊢
  have hP : va_P (dC, dI) xCl [(h0, .inr (0, [.ref q1, .ref q12, .ref q14, .ref q16, .ref q19, .null])), (q1, .inr (1, [.ref q2, .ref q3, .ref q4, .ref q5, .ref q6, .ref q7, .ref q8, .ref q9, .ref q10, .ref q11, .int 0])), (q2, .inl (c2, (8, .inr (.inl (fun _ => 0))))), (q3, .inl (c3, (8, .inr (.inl (fun _ => 0))))), (q4, .inl (c4, (8, .inl (fun _ => 0)))), (q5, .inl (c5, (8, .inl (fun _ => 0)))), (q6, .inl (c6, (8, .inl (fun _ => 0)))), (q7, .inl (c7, (8, .inl (fun _ => 0)))), (q8, .inl (c8, (64, .inr (.inl (fun _ => 0))))), (q9, .inl (c9, (64, .inr (.inl (fun _ => 0))))), (q10, .inl (c10, (64, .inr (.inl (fun _ => 0))))), (q11, .inl (c11, (64, .inl (fun _ => 0)))), (q12, .inr (2, [.ref q13, .int 0])), (q13, .inl (c13, (512, .inl (fun _ => 0)))), (q14, .inr (2, [.ref q15, .int 0])), (q15, .inl (c15, (512, .inl (fun _ => 0)))), (q16, .inr (3, [.ref q1, .ref q12, .ref q17, .int 0, .ref q18, .int 0])), (q17, .inl (c17, (22, .inl (fun _ => 0)))), (q18, .inl (c18, (15, .inl (fun _ => 0)))), (q19, .inr (3, [.ref q1, .ref q14, .ref q20, .int 0, .ref q21, .int 0])), (q20, .inl (c20, (22, .inl (fun _ => 0)))), (q21, .inl (c21, (15, .inl (fun _ => 0)))), (q22, .inr (4, [.ref q1, .ref q12, .ref q23, .int 0, .int 0])), (q23, .inl (c23, (15, .inl (fun _ => 0))))] H := hP
  have hD : va_D A [(h0, .inr (0, [.ref q1, .ref q12, .ref q14, .ref q16, .ref q19, .null])), (q1, .inr (1, [.ref q2, .ref q3, .ref q4, .ref q5, .ref q6, .ref q7, .ref q8, .ref q9, .ref q10, .ref q11, .int 0])), (q2, .inl (c2, (8, .inr (.inl (fun _ => 0))))), (q3, .inl (c3, (8, .inr (.inl (fun _ => 0))))), (q4, .inl (c4, (8, .inl (fun _ => 0)))), (q5, .inl (c5, (8, .inl (fun _ => 0)))), (q6, .inl (c6, (8, .inl (fun _ => 0)))), (q7, .inl (c7, (8, .inl (fun _ => 0)))), (q8, .inl (c8, (64, .inr (.inl (fun _ => 0))))), (q9, .inl (c9, (64, .inr (.inl (fun _ => 0))))), (q10, .inl (c10, (64, .inr (.inl (fun _ => 0))))), (q11, .inl (c11, (64, .inl (fun _ => 0)))), (q12, .inr (2, [.ref q13, .int 0])), (q13, .inl (c13, (512, .inl (fun _ => 0)))), (q14, .inr (2, [.ref q15, .int 0])), (q15, .inl (c15, (512, .inl (fun _ => 0)))), (q16, .inr (3, [.ref q1, .ref q12, .ref q17, .int 0, .ref q18, .int 0])), (q17, .inl (c17, (22, .inl (fun _ => 0)))), (q18, .inl (c18, (15, .inl (fun _ => 0)))), (q19, .inr (3, [.ref q1, .ref q14, .ref q20, .int 0, .ref q21, .int 0])), (q20, .inl (c20, (22, .inl (fun _ => 0)))), (q21, .inl (c21, (15, .inl (fun _ => 0)))), (q22, .inr (4, [.ref q1, .ref q12, .ref q23, .int 0, .int 0])), (q23, .inl (c23, (15, .inl (fun _ => 0))))] := hD
  have hK : va_K (dC, dI) xCl [(c2, .long), (c3, .long), (c4, .int), (c5, .boolean), (c6, .int), (c7, .int), (c8, .long), (c9, .long), (c10, .long), (c11, .boolean), (c13, .int), (c15, .int), (c17, .int), (c18, .int), (c20, .int), (c21, .int), (c23, .int)] s := hK
  refine va_putF (D := (dC, dI)) (ci := 0) (v := .ref q22) (ty := .object "NameMover$ClassReader") (C := RN) (T := FN) (N := 6) hx hb hts tin2_N tN tN_ok nN hown hK hP hD hS 0 rfl rfl 5 (by decide) (hts _ (tc2 tv_155)) (fun _ h9 => h9) rfl hin rfl (by decide +kernel) rfl rfl (Nat.le_of_ble_eq_true rfl) (by decide +kernel : decode prog_1_method_1_code 91 = .ok (.putfield 41, 3)) (fun H locs hP hD hS => ?_)
  have hP : va_P (dC, dI) xCl [(h0, .inr (0, [.ref q1, .ref q12, .ref q14, .ref q16, .ref q19, .ref q22])), (q1, .inr (1, [.ref q2, .ref q3, .ref q4, .ref q5, .ref q6, .ref q7, .ref q8, .ref q9, .ref q10, .ref q11, .int 0])), (q2, .inl (c2, (8, .inr (.inl (fun _ => 0))))), (q3, .inl (c3, (8, .inr (.inl (fun _ => 0))))), (q4, .inl (c4, (8, .inl (fun _ => 0)))), (q5, .inl (c5, (8, .inl (fun _ => 0)))), (q6, .inl (c6, (8, .inl (fun _ => 0)))), (q7, .inl (c7, (8, .inl (fun _ => 0)))), (q8, .inl (c8, (64, .inr (.inl (fun _ => 0))))), (q9, .inl (c9, (64, .inr (.inl (fun _ => 0))))), (q10, .inl (c10, (64, .inr (.inl (fun _ => 0))))), (q11, .inl (c11, (64, .inl (fun _ => 0)))), (q12, .inr (2, [.ref q13, .int 0])), (q13, .inl (c13, (512, .inl (fun _ => 0)))), (q14, .inr (2, [.ref q15, .int 0])), (q15, .inl (c15, (512, .inl (fun _ => 0)))), (q16, .inr (3, [.ref q1, .ref q12, .ref q17, .int 0, .ref q18, .int 0])), (q17, .inl (c17, (22, .inl (fun _ => 0)))), (q18, .inl (c18, (15, .inl (fun _ => 0)))), (q19, .inr (3, [.ref q1, .ref q14, .ref q20, .int 0, .ref q21, .int 0])), (q20, .inl (c20, (22, .inl (fun _ => 0)))), (q21, .inl (c21, (15, .inl (fun _ => 0)))), (q22, .inr (4, [.ref q1, .ref q12, .ref q23, .int 0, .int 0])), (q23, .inl (c23, (15, .inl (fun _ => 0))))] H := hP
  have hD : va_D A [(h0, .inr (0, [.ref q1, .ref q12, .ref q14, .ref q16, .ref q19, .ref q22])), (q1, .inr (1, [.ref q2, .ref q3, .ref q4, .ref q5, .ref q6, .ref q7, .ref q8, .ref q9, .ref q10, .ref q11, .int 0])), (q2, .inl (c2, (8, .inr (.inl (fun _ => 0))))), (q3, .inl (c3, (8, .inr (.inl (fun _ => 0))))), (q4, .inl (c4, (8, .inl (fun _ => 0)))), (q5, .inl (c5, (8, .inl (fun _ => 0)))), (q6, .inl (c6, (8, .inl (fun _ => 0)))), (q7, .inl (c7, (8, .inl (fun _ => 0)))), (q8, .inl (c8, (64, .inr (.inl (fun _ => 0))))), (q9, .inl (c9, (64, .inr (.inl (fun _ => 0))))), (q10, .inl (c10, (64, .inr (.inl (fun _ => 0))))), (q11, .inl (c11, (64, .inl (fun _ => 0)))), (q12, .inr (2, [.ref q13, .int 0])), (q13, .inl (c13, (512, .inl (fun _ => 0)))), (q14, .inr (2, [.ref q15, .int 0])), (q15, .inl (c15, (512, .inl (fun _ => 0)))), (q16, .inr (3, [.ref q1, .ref q12, .ref q17, .int 0, .ref q18, .int 0])), (q17, .inl (c17, (22, .inl (fun _ => 0)))), (q18, .inl (c18, (15, .inl (fun _ => 0)))), (q19, .inr (3, [.ref q1, .ref q14, .ref q20, .int 0, .ref q21, .int 0])), (q20, .inl (c20, (22, .inl (fun _ => 0)))), (q21, .inl (c21, (15, .inl (fun _ => 0)))), (q22, .inr (4, [.ref q1, .ref q12, .ref q23, .int 0, .int 0])), (q23, .inl (c23, (15, .inl (fun _ => 0))))] := hD
  exact W.vret hx hb hr (fun t ht hW => ⟨⟨(), rfl, trivial, q1, q2, c2, q3, c3, q4, c4, q5, c5, q6, c6, q7, c7, q8, c8, q9, c9, q10, c10, q11, c11, q12, q13, c13, q14, q15, c15, q16, q17, c17, q18, c18, q19, q20, c20, q21, c21, q22, q23, c23, by rw [ht]; exact hP, va_K.moved hW.alike hK, hD⟩, hS.F ht⟩) hS.2.2 (by decide +kernel : decode prog_1_method_1_code 94 = .ok (.return_, 1))
end
section
abbrev at_M_init (dC : Nat → ClassId) (dI : Nat → Nat → Nat) (A : Nat → Prop) (h0 : Nat) (_ : Unit) (t : State) : Prop := ∃ (q1 : Nat) (c1 : ClassId), ∃ (q2 : Nat) (c2 : ClassId), ∃ (q3 : Nat) (c3 : ClassId), ∃ (q4 : Nat) (c4 : ClassId), ∃ (q5 : Nat) (c5 : ClassId), ∃ (q6 : Nat) (c6 : ClassId), ∃ (q7 : Nat) (c7 : ClassId), ∃ (q8 : Nat) (c8 : ClassId), ∃ (q9 : Nat) (c9 : ClassId), ∃ (q10 : Nat) (c10 : ClassId), ∃ (q11 : Nat) (c11 : ClassId), ∃ (q12 : Nat) (c12 : ClassId), ∃ (q13 : Nat) (c13 : ClassId), ∃ (q14 : Nat) (c14 : ClassId), ∃ (q15 : Nat) (c15 : ClassId), ∃ (q16 : Nat) (c16 : ClassId), va_P (dC, dI) xCl [(h0, .inr (5, [.int 0, .int 0, .ref q1, .ref q2, .ref q3, .ref q4, .ref q5, .ref q6, .ref q7, .ref q8, .ref q9, .ref q10, .ref q11, .int 0, .ref q12, .int 0, .int 0, .ref q13, .ref q14, .ref q15, .int 0, .ref q16, .int 0])), (q1, .inl (c1, (8, .inr (.inl (fun _ => 0))))), (q2, .inl (c2, (8, .inr (.inl (fun _ => 0))))), (q3, .inl (c3, (8, .inl (fun _ => 0)))), (q4, .inl (c4, (8, .inl (fun _ => 0)))), (q5, .inl (c5, (8, .inl (fun _ => 0)))), (q6, .inl (c6, (64, .inr (.inl (fun _ => 0))))), (q7, .inl (c7, (64, .inr (.inl (fun _ => 0))))), (q8, .inl (c8, (64, .inr (.inl (fun _ => 0))))), (q9, .inl (c9, (64, .inl (fun _ => 0)))), (q10, .inl (c10, (64, .inl (fun _ => 0)))), (q11, .inl (c11, (480, .inl (fun _ => 0)))), (q12, .inl (c12, (480, .inl (fun _ => 0)))), (q13, .inl (c13, (960, .inl (fun _ => 0)))), (q14, .inl (c14, (15, .inl (fun _ => 0)))), (q15, .inl (c15, (64, .inl (fun _ => 0)))), (q16, .inl (c16, (14, .inl (fun _ => 0))))] t.heap ∧ va_K (dC, dI) xCl [(c1, .long), (c2, .long), (c3, .int), (c4, .boolean), (c5, .int), (c6, .long), (c7, .long), (c8, .long), (c9, .boolean), (c10, .boolean), (c11, .int), (c12, .int), (c13, .int), (c14, .int), (c15, .int), (c16, .int)] t ∧ va_D A [(h0, .inr (5, [.int 0, .int 0, .ref q1, .ref q2, .ref q3, .ref q4, .ref q5, .ref q6, .ref q7, .ref q8, .ref q9, .ref q10, .ref q11, .int 0, .ref q12, .int 0, .int 0, .ref q13, .ref q14, .ref q15, .int 0, .ref q16, .int 0])), (q1, .inl (c1, (8, .inr (.inl (fun _ => 0))))), (q2, .inl (c2, (8, .inr (.inl (fun _ => 0))))), (q3, .inl (c3, (8, .inl (fun _ => 0)))), (q4, .inl (c4, (8, .inl (fun _ => 0)))), (q5, .inl (c5, (8, .inl (fun _ => 0)))), (q6, .inl (c6, (64, .inr (.inl (fun _ => 0))))), (q7, .inl (c7, (64, .inr (.inl (fun _ => 0))))), (q8, .inl (c8, (64, .inr (.inl (fun _ => 0))))), (q9, .inl (c9, (64, .inl (fun _ => 0)))), (q10, .inl (c10, (64, .inl (fun _ => 0)))), (q11, .inl (c11, (480, .inl (fun _ => 0)))), (q12, .inl (c12, (480, .inl (fun _ => 0)))), (q13, .inl (c13, (960, .inl (fun _ => 0)))), (q14, .inl (c14, (15, .inl (fun _ => 0)))), (q15, .inl (c15, (64, .inl (fun _ => 0)))), (q16, .inl (c16, (14, .inl (fun _ => 0))))]
abbrev y_M_init : MethodName := ⟨"NameMoverModel", "<init>", "()V"⟩
abbrev ws_M_init : List Cond := Cond.code y_M_init prog_11_method_1_code 1 none :: xt2
set_option maxHeartbeats 1000000 in
set_option maxRecDepth 100000 in
theorem c_M_init (l : Launch) (dC : Nat → ClassId) (dI : Nat → Nat → Nat) (h0 sz : Nat) : Met l y_M_init ws_M_init ({ frames := 1, cells := 16, slots := 2373, locals := 12 }) (va_Pc [.ref h0] (fun U => U.heap.size = sz ∧ va_P (dC, dI) xCl [(h0, .inr (5, [.int 0, .int 0, .null, .null, .null, .null, .null, .null, .null, .null, .null, .null, .null, .int 0, .null, .int 0, .int 0, .null, .null, .null, .int 0, .null, .int 0]))] U.heap ∧ va_K (dC, dI) xCl [] U ∧ va_D (fun _ => True) [(h0, .inr (5, [.int 0, .int 0, .null, .null, .null, .null, .null, .null, .null, .null, .null, .null, .null, .int 0, .null, .int 0, .int 0, .null, .null, .null, .int 0, .null, .int 0]))])) (va_Qv (fun _ : Unit => True) (at_M_init dC dI (va_A [(h0, .inr (5, [.int 0, .int 0, .null, .null, .null, .null, .null, .null, .null, .null, .null, .null, .null, .int 0, .null, .int 0, .int 0, .null, .null, .null, .int 0, .null, .int 0]))] sz) h0) (va_A [(h0, .inr (5, [.int 0, .int 0, .null, .null, .null, .null, .null, .null, .null, .null, .null, .null, .null, .int 0, .null, .int 0, .int 0, .null, .null, .null, .int 0, .null, .int 0]))] sz)) 16 2373 (va_A [(h0, .inr (5, [.int 0, .int 0, .null, .null, .null, .null, .null, .null, .null, .null, .null, .null, .null, .int 0, .null, .int 0, .int 0, .null, .null, .null, .int 0, .null, .int 0]))] sz) := by
  refine Met.ofW (cc := prog_11_method_1_code) (maxL := 1) (ret := none) (by decide) rfl ?_
  intro p e s m args below meth c s₁ B hml hv
  obtain ⟨rfl, hsz, hP, hK, hD0⟩ := hv
  have hx := B.exec
  have hb := B.bytes
  have hr := B.returns
  have hts := atoms_spec (ws := ws_M_init) B.pre
  have hown : s.vm.findClass "NameMoverModel" = some m.cls := findClass_of_methodNamed B.named
  have hlocks := B.notSynchronized
  have hin : meth.name = "<init>" := (name_of_methodNamed B.named B.method).1
  subst hsz
  have hD := hD0.self (sz := s.heap.size)
  generalize hAe : va_A [(h0, .inr (5, [.int 0, .int 0, .null, .null, .null, .null, .null, .null, .null, .null, .null, .null, .null, .int 0, .null, .int 0, .int 0, .null, .null, .null, .int 0, .null, .int 0]))] s.heap.size = A at hD ⊢
  have hA : ∀ q : Nat, s.heap.size ≤ q → A q := fun q h => by rw [← hAe]; exact Or.inr h
  have hS : va_S A s.heap s.heap [] := va_S.rf
  have hl := lv_entry ([.ref h0]) (n := 1) (Nat.le_of_ble_eq_true rfl)
  rw [lg_entry_eq]
  generalize (lg_sl ([.ref h0]) ++ List.replicate (1 - (lg_sl ([.ref h0])).length) Slot.unset).toArray = ls at hl ⊢
  have hl : lv_has ls 1 [(0, .ref h0)] := hl
  refine lv_aload_n hx hb (by decide +kernel : decode prog_11_method_1_code 0 = .ok (.aload_n 0, 1)) rfl (lv_at hl 0 rfl) ?_
  refine W.objInit hx hb hown (hts _ (tc2 tv_765)) (hts _ (tc2 tv_25)) (hts _ (tc2 tv_26)) rfl (by rw [hml]; exact hl.1) rfl (by decide +kernel : decode prog_11_method_1_code 1 = .ok (.invokespecial 1, 3)) (Nat.le_of_ble_eq_true rfl) (Nat.le_of_ble_eq_true rfl) ?_
  refine W.eq (g2 := F0 m 4 ls []) rfl ?_
  refine lv_aload_n hx hb (by decide +kernel : decode prog_11_method_1_code 4 = .ok (.aload_n 0, 1)) rfl (lv_at hl 0 rfl) ?_
  refine lv_bipush (v := 8) hx hb (by decide +kernel : decode prog_11_method_1_code 5 = .ok (.bipush 8, 2)) (by decide) ?_
  refine va_newa (D := (dC, dI)) (cl := xCl) (atype := .long) (N' := 8) (a0 := (8, .inr (.inl (fun _ => 0)))) hx hb (hts _ (tc2 tv_87)) rfl hK hP hD hS hA (fun _ => rfl) (by decide) (by decide) (by decide) (by decide : 1 ≤ 16) (by decide : 8 ≤ 2373) (by decide +kernel : decode prog_11_method_1_code 7 = .ok (.newarray .long, 2)) (fun q1 c1 H hK hP hD hS => ?_)
  have hP : va_P (dC, dI) xCl [(h0, .inr (5, [.int 0, .int 0, .null, .null, .null, .null, .null, .null, .null, .null, .null, .null, .null, .int 0, .null, .int 0, .int 0, .null, .null, .null, .int 0, .null, .int 0])), (q1, .inl (c1, (8, .inr (.inl (fun _ => 0)))))] H := hP
  have hD : va_D A [(h0, .inr (5, [.int 0, .int 0, .null, .null, .null, .null, .null, .null, .null, .null, .null, .null, .null, .int 0, .null, .int 0, .int 0, .null, .null, .null, .int 0, .null, .int 0])), (q1, .inl (c1, (8, .inr (.inl (fun _ => 0)))))] := hD
  have hK : va_K (dC, dI) xCl [(c1, .long)] s := hK
  refine W.widen (k := 1) (n := 8) (by omega) (by omega) ?_
  refine va_putF (D := (dC, dI)) (ci := 5) (v := .ref q1) (ty := .array .long) (C := RM) (T := FM) (N := 23) hx hb hts tin2_M tM tM_ok nM hown hK hP hD hS 0 rfl rfl 2 (by decide) (hts _ (tc2 tv_768)) (fun _ h9 => h9) rfl hin rfl (by decide +kernel) rfl rfl (Nat.le_of_ble_eq_true rfl) (by decide +kernel : decode prog_11_method_1_code 9 = .ok (.putfield 7, 3)) (fun H locs hP hD hS => ?_)
  have hP : va_P (dC, dI) xCl [(h0, .inr (5, [.int 0, .int 0, .ref q1, .null, .null, .null, .null, .null, .null, .null, .null, .null, .null, .int 0, .null, .int 0, .int 0, .null, .null, .null, .int 0, .null, .int 0])), (q1, .inl (c1, (8, .inr (.inl (fun _ => 0)))))] H := hP
  have hD : va_D A [(h0, .inr (5, [.int 0, .int 0, .ref q1, .null, .null, .null, .null, .null, .null, .null, .null, .null, .null, .int 0, .null, .int 0, .int 0, .null, .null, .null, .int 0, .null, .int 0])), (q1, .inl (c1, (8, .inr (.inl (fun _ => 0)))))] := hD
  refine lv_aload_n hx hb (by decide +kernel : decode prog_11_method_1_code 12 = .ok (.aload_n 0, 1)) rfl (lv_at hl 0 rfl) ?_
  refine lv_bipush (v := 8) hx hb (by decide +kernel : decode prog_11_method_1_code 13 = .ok (.bipush 8, 2)) (by decide) ?_
  refine va_newa (D := (dC, dI)) (cl := xCl) (atype := .long) (N' := 8) (a0 := (8, .inr (.inl (fun _ => 0)))) hx hb (hts _ (tc2 tv_87)) rfl hK hP hD hS hA (fun _ => rfl) (by decide) (by decide) (by decide) (by decide : 2 ≤ 16) (by decide : 16 ≤ 2373) (by decide +kernel : decode prog_11_method_1_code 15 = .ok (.newarray .long, 2)) (fun q2 c2 H hK hP hD hS => ?_)
  have hP : va_P (dC, dI) xCl [(h0, .inr (5, [.int 0, .int 0, .ref q1, .null, .null, .null, .null, .null, .null, .null, .null, .null, .null, .int 0, .null, .int 0, .int 0, .null, .null, .null, .int 0, .null, .int 0])), (q1, .inl (c1, (8, .inr (.inl (fun _ => 0))))), (q2, .inl (c2, (8, .inr (.inl (fun _ => 0)))))] H := hP
  have hD : va_D A [(h0, .inr (5, [.int 0, .int 0, .ref q1, .null, .null, .null, .null, .null, .null, .null, .null, .null, .null, .int 0, .null, .int 0, .int 0, .null, .null, .null, .int 0, .null, .int 0])), (q1, .inl (c1, (8, .inr (.inl (fun _ => 0))))), (q2, .inl (c2, (8, .inr (.inl (fun _ => 0)))))] := hD
  have hK : va_K (dC, dI) xCl [(c1, .long), (c2, .long)] s := hK
  refine W.widen (k := 2) (n := 16) (by omega) (by omega) ?_
  refine va_putF (D := (dC, dI)) (ci := 5) (v := .ref q2) (ty := .array .long) (C := RM) (T := FM) (N := 23) hx hb hts tin2_M tM tM_ok nM hown hK hP hD hS 0 rfl rfl 3 (by decide) (hts _ (tc2 tv_769)) (fun _ h9 => h9) rfl hin rfl (by decide +kernel) rfl rfl (Nat.le_of_ble_eq_true rfl) (by decide +kernel : decode prog_11_method_1_code 17 = .ok (.putfield 13, 3)) (fun H locs hP hD hS => ?_)
  have hP : va_P (dC, dI) xCl [(h0, .inr (5, [.int 0, .int 0, .ref q1, .ref q2, .null, .null, .null, .null, .null, .null, .null, .null, .null, .int 0, .null, .int 0, .int 0, .null, .null, .null, .int 0, .null, .int 0])), (q1, .inl (c1, (8, .inr (.inl (fun _ => 0))))), (q2, .inl (c2, (8, .inr (.inl (fun _ => 0)))))] H := hP
  have hD : va_D A [(h0, .inr (5, [.int 0, .int 0, .ref q1, .ref q2, .null, .null, .null, .null, .null, .null, .null, .null, .null, .int 0, .null, .int 0, .int 0, .null, .null, .null, .int 0, .null, .int 0])), (q1, .inl (c1, (8, .inr (.inl (fun _ => 0))))), (q2, .inl (c2, (8, .inr (.inl (fun _ => 0)))))] := hD
  refine lv_aload_n hx hb (by decide +kernel : decode prog_11_method_1_code 20 = .ok (.aload_n 0, 1)) rfl (lv_at hl 0 rfl) ?_
  refine lv_bipush (v := 8) hx hb (by decide +kernel : decode prog_11_method_1_code 21 = .ok (.bipush 8, 2)) (by decide) ?_
  refine va_newa (D := (dC, dI)) (cl := xCl) (atype := .int) (N' := 8) (a0 := (8, .inl (fun _ => 0))) hx hb (hts _ (tc2 tv_88)) rfl hK hP hD hS hA (fun _ => rfl) (by decide) (by decide) (by decide) (by decide : 3 ≤ 16) (by decide : 24 ≤ 2373) (by decide +kernel : decode prog_11_method_1_code 23 = .ok (.newarray .int, 2)) (fun q3 c3 H hK hP hD hS => ?_)
  have hP : va_P (dC, dI) xCl [(h0, .inr (5, [.int 0, .int 0, .ref q1, .ref q2, .null, .null, .null, .null, .null, .null, .null, .null, .null, .int 0, .null, .int 0, .int 0, .null, .null, .null, .int 0, .null, .int 0])), (q1, .inl (c1, (8, .inr (.inl (fun _ => 0))))), (q2, .inl (c2, (8, .inr (.inl (fun _ => 0))))), (q3, .inl (c3, (8, .inl (fun _ => 0))))] H := hP
  have hD : va_D A [(h0, .inr (5, [.int 0, .int 0, .ref q1, .ref q2, .null, .null, .null, .null, .null, .null, .null, .null, .null, .int 0, .null, .int 0, .int 0, .null, .null, .null, .int 0, .null, .int 0])), (q1, .inl (c1, (8, .inr (.inl (fun _ => 0))))), (q2, .inl (c2, (8, .inr (.inl (fun _ => 0))))), (q3, .inl (c3, (8, .inl (fun _ => 0))))] := hD
  have hK : va_K (dC, dI) xCl [(c1, .long), (c2, .long), (c3, .int)] s := hK
  refine W.widen (k := 3) (n := 24) (by omega) (by omega) ?_
  refine va_putF (D := (dC, dI)) (ci := 5) (v := .ref q3) (ty := .array .int) (C := RM) (T := FM) (N := 23) hx hb hts tin2_M tM tM_ok nM hown hK hP hD hS 0 rfl rfl 4 (by decide) (hts _ (tc2 tv_770)) (fun _ h9 => h9) rfl hin rfl (by decide +kernel) rfl rfl (Nat.le_of_ble_eq_true rfl) (by decide +kernel : decode prog_11_method_1_code 25 = .ok (.putfield 16, 3)) (fun H locs hP hD hS => ?_)
  have hP : va_P (dC, dI) xCl [(h0, .inr (5, [.int 0, .int 0, .ref q1, .ref q2, .ref q3, .null, .null, .null, .null, .null, .null, .null, .null, .int 0, .null, .int 0, .int 0, .null, .null, .null, .int 0, .null, .int 0])), (q1, .inl (c1, (8, .inr (.inl (fun _ => 0))))), (q2, .inl (c2, (8, .inr (.inl (fun _ => 0))))), (q3, .inl (c3, (8, .inl (fun _ => 0))))] H := hP
  have hD : va_D A [(h0, .inr (5, [.int 0, .int 0, .ref q1, .ref q2, .ref q3, .null, .null, .null, .null, .null, .null, .null, .null, .int 0, .null, .int 0, .int 0, .null, .null, .null, .int 0, .null, .int 0])), (q1, .inl (c1, (8, .inr (.inl (fun _ => 0))))), (q2, .inl (c2, (8, .inr (.inl (fun _ => 0))))), (q3, .inl (c3, (8, .inl (fun _ => 0))))] := hD
  refine lv_aload_n hx hb (by decide +kernel : decode prog_11_method_1_code 28 = .ok (.aload_n 0, 1)) rfl (lv_at hl 0 rfl) ?_
  refine lv_bipush (v := 8) hx hb (by decide +kernel : decode prog_11_method_1_code 29 = .ok (.bipush 8, 2)) (by decide) ?_
  refine va_newa (D := (dC, dI)) (cl := xCl) (atype := .boolean) (N' := 8) (a0 := (8, .inl (fun _ => 0))) hx hb (hts _ (tc2 tv_89)) rfl hK hP hD hS hA (fun _ => rfl) (by decide) (by decide) (by decide) (by decide : 4 ≤ 16) (by decide : 32 ≤ 2373) (by decide +kernel : decode prog_11_method_1_code 31 = .ok (.newarray .boolean, 2)) (fun q4 c4 H hK hP hD hS => ?_)
  have hP : va_P (dC, dI) xCl [(h0, .inr (5, [.int 0, .int 0, .ref q1, .ref q2, .ref q3, .null, .null, .null, .null, .null, .null, .null, .null, .int 0, .null, .int 0, .int 0, .null, .null, .null, .int 0, .null, .int 0])), (q1, .inl (c1, (8, .inr (.inl (fun _ => 0))))), (q2, .inl (c2, (8, .inr (.inl (fun _ => 0))))), (q3, .inl (c3, (8, .inl (fun _ => 0)))), (q4, .inl (c4, (8, .inl (fun _ => 0))))] H := hP
  have hD : va_D A [(h0, .inr (5, [.int 0, .int 0, .ref q1, .ref q2, .ref q3, .null, .null, .null, .null, .null, .null, .null, .null, .int 0, .null, .int 0, .int 0, .null, .null, .null, .int 0, .null, .int 0])), (q1, .inl (c1, (8, .inr (.inl (fun _ => 0))))), (q2, .inl (c2, (8, .inr (.inl (fun _ => 0))))), (q3, .inl (c3, (8, .inl (fun _ => 0)))), (q4, .inl (c4, (8, .inl (fun _ => 0))))] := hD
  have hK : va_K (dC, dI) xCl [(c1, .long), (c2, .long), (c3, .int), (c4, .boolean)] s := hK
  refine W.widen (k := 4) (n := 32) (by omega) (by omega) ?_
  refine va_putF (D := (dC, dI)) (ci := 5) (v := .ref q4) (ty := .array .boolean) (C := RM) (T := FM) (N := 23) hx hb hts tin2_M tM tM_ok nM hown hK hP hD hS 0 rfl rfl 5 (by decide) (hts _ (tc2 tv_771)) (fun _ h9 => h9) rfl hin rfl (by decide +kernel) rfl rfl (Nat.le_of_ble_eq_true rfl) (by decide +kernel : decode prog_11_method_1_code 33 = .ok (.putfield 20, 3)) (fun H locs hP hD hS => ?_)
  have hP : va_P (dC, dI) xCl [(h0, .inr (5, [.int 0, .int 0, .ref q1, .ref q2, .ref q3, .ref q4, .null, .null, .null, .null, .null, .null, .null, .int 0, .null, .int 0, .int 0, .null, .null, .null, .int 0, .null, .int 0])), (q1, .inl (c1, (8, .inr (.inl (fun _ => 0))))), (q2, .inl (c2, (8, .inr (.inl (fun _ => 0))))), (q3, .inl (c3, (8, .inl (fun _ => 0)))), (q4, .inl (c4, (8, .inl (fun _ => 0))))] H := hP
  have hD : va_D A [(h0, .inr (5, [.int 0, .int 0, .ref q1, .ref q2, .ref q3, .ref q4, .null, .null, .null, .null, .null, .null, .null, .int 0, .null, .int 0, .int 0, .null, .null, .null, .int 0, .null, .int 0])), (q1, .inl (c1, (8, .inr (.inl (fun _ => 0))))), (q2, .inl (c2, (8, .inr (.inl (fun _ => 0))))), (q3, .inl (c3, (8, .inl (fun _ => 0)))), (q4, .inl (c4, (8, .inl (fun _ => 0))))] := hD
  refine lv_aload_n hx hb (by decide +kernel : decode prog_11_method_1_code 36 = .ok (.aload_n 0, 1)) rfl (lv_at hl 0 rfl) ?_
  refine lv_bipush (v := 8) hx hb (by decide +kernel : decode prog_11_method_1_code 37 = .ok (.bipush 8, 2)) (by decide) ?_
  refine va_newa (D := (dC, dI)) (cl := xCl) (atype := .int) (N' := 8) (a0 := (8, .inl (fun _ => 0))) hx hb (hts _ (tc2 tv_88)) rfl hK hP hD hS hA (fun _ => rfl) (by decide) (by decide) (by decide) (by decide : 5 ≤ 16) (by decide : 40 ≤ 2373) (by decide +kernel : decode prog_11_method_1_code 39 = .ok (.newarray .int, 2)) (fun q5 c5 H hK hP hD hS => ?_)
  have hP : va_P (dC, dI) xCl [(h0, .inr (5, [.int 0, .int 0, .ref q1, .ref q2, .ref q3, .ref q4, .null, .null, .null, .null, .null, .null, .null, .int 0, .null, .int 0, .int 0, .null, .null, .null, .int 0, .null, .int 0])), (q1, .inl (c1, (8, .inr (.inl (fun _ => 0))))), (q2, .inl (c2, (8, .inr (.inl (fun _ => 0))))), (q3, .inl (c3, (8, .inl (fun _ => 0)))), (q4, .inl (c4, (8, .inl (fun _ => 0)))), (q5, .inl (c5, (8, .inl (fun _ => 0))))] H := hP
  have hD : va_D A [(h0, .inr (5, [.int 0, .int 0, .ref q1, .ref q2, .ref q3, .ref q4, .null, .null, .null, .null, .null, .null, .null, .int 0, .null, .int 0, .int 0, .null, .null, .null, .int 0, .null, .int 0])), (q1, .inl (c1, (8, .inr (.inl (fun _ => 0))))), (q2, .inl (c2, (8, .inr (.inl (fun _ => 0))))), (q3, .inl (c3, (8, .inl (fun _ => 0)))), (q4, .inl (c4, (8, .inl (fun _ => 0)))), (q5, .inl (c5, (8, .inl (fun _ => 0))))] := hD
  have hK : va_K (dC, dI) xCl [(c1, .long), (c2, .long), (c3, .int), (c4, .boolean), (c5, .int)] s := hK
  refine W.widen (k := 5) (n := 40) (by omega) (by omega) ?_
  refine va_putF (D := (dC, dI)) (ci := 5) (v := .ref q5) (ty := .array .int) (C := RM) (T := FM) (N := 23) hx hb hts tin2_M tM tM_ok nM hown hK hP hD hS 0 rfl rfl 6 (by decide) (hts _ (tc2 tv_772)) (fun _ h9 => h9) rfl hin rfl (by decide +kernel) rfl rfl (Nat.le_of_ble_eq_true rfl) (by decide +kernel : decode prog_11_method_1_code 41 = .ok (.putfield 24, 3)) (fun H locs hP hD hS => ?_)
  have hP : va_P (dC, dI) xCl [(h0, .inr (5, [.int 0, .int 0, .ref q1, .ref q2, .ref q3, .ref q4, .ref q5, .null, .null, .null, .null, .null, .null, .int 0, .null, .int 0, .int 0, .null, .null, .null, .int 0, .null, .int 0])), (q1, .inl (c1, (8, .inr (.inl (fun _ => 0))))), (q2, .inl (c2, (8, .inr (.inl (fun _ => 0))))), (q3, .inl (c3, (8, .inl (fun _ => 0)))), (q4, .inl (c4, (8, .inl (fun _ => 0)))), (q5, .inl (c5, (8, .inl (fun _ => 0))))] H := hP
  have hD : va_D A [(h0, .inr (5, [.int 0, .int 0, .ref q1, .ref q2, .ref q3, .ref q4, .ref q5, .null, .null, .null, .null, .null, .null, .int 0, .null, .int 0, .int 0, .null, .null, .null, .int 0, .null, .int 0])), (q1, .inl (c1, (8, .inr (.inl (fun _ => 0))))), (q2, .inl (c2, (8, .inr (.inl (fun _ => 0))))), (q3, .inl (c3, (8, .inl (fun _ => 0)))), (q4, .inl (c4, (8, .inl (fun _ => 0)))), (q5, .inl (c5, (8, .inl (fun _ => 0))))] := hD
  refine lv_aload_n hx hb (by decide +kernel : decode prog_11_method_1_code 44 = .ok (.aload_n 0, 1)) rfl (lv_at hl 0 rfl) ?_
  refine lv_bipush (v := 64) hx hb (by decide +kernel : decode prog_11_method_1_code 45 = .ok (.bipush 64, 2)) (by decide) ?_
  refine va_newa (D := (dC, dI)) (cl := xCl) (atype := .long) (N' := 64) (a0 := (64, .inr (.inl (fun _ => 0)))) hx hb (hts _ (tc2 tv_87)) rfl hK hP hD hS hA (fun _ => rfl) (by decide) (by decide) (by decide) (by decide : 6 ≤ 16) (by decide : 104 ≤ 2373) (by decide +kernel : decode prog_11_method_1_code 47 = .ok (.newarray .long, 2)) (fun q6 c6 H hK hP hD hS => ?_)
  have hP : va_P (dC, dI) xCl [(h0, .inr (5, [.int 0, .int 0, .ref q1, .ref q2, .ref q3, .ref q4, .ref q5, .null, .null, .null, .null, .null, .null, .int 0, .null, .int 0, .int 0, .null, .null, .null, .int 0, .null, .int 0])), (q1, .inl (c1, (8, .inr (.inl (fun _ => 0))))), (q2, .inl (c2, (8, .inr (.inl (fun _ => 0))))), (q3, .inl (c3, (8, .inl (fun _ => 0)))), (q4, .inl (c4, (8, .inl (fun _ => 0)))), (q5, .inl (c5, (8, .inl (fun _ => 0)))), (q6, .inl (c6, (64, .inr (.inl (fun _ => 0)))))] H := hP
  have hD : va_D A [(h0, .inr (5, [.int 0, .int 0, .ref q1, .ref q2, .ref q3, .ref q4, .ref q5, .null, .null, .null, .null, .null, .null, .int 0, .null, .int 0, .int 0, .null, .null, .null, .int 0, .null, .int 0])), (q1, .inl (c1, (8, .inr (.inl (fun _ => 0))))), (q2, .inl (c2, (8, .inr (.inl (fun _ => 0))))), (q3, .inl (c3, (8, .inl (fun _ => 0)))), (q4, .inl (c4, (8, .inl (fun _ => 0)))), (q5, .inl (c5, (8, .inl (fun _ => 0)))), (q6, .inl (c6, (64, .inr (.inl (fun _ => 0)))))] := hD
  have hK : va_K (dC, dI) xCl [(c1, .long), (c2, .long), (c3, .int), (c4, .boolean), (c5, .int), (c6, .long)] s := hK
  refine W.widen (k := 6) (n := 104) (by omega) (by omega) ?_
  refine va_putF (D := (dC, dI)) (ci := 5) (v := .ref q6) (ty := .array .long) (C := RM) (T := FM) (N := 23) hx hb hts tin2_M tM tM_ok nM hown hK hP hD hS 0 rfl rfl 7 (by decide) (hts _ (tc2 tv_773)) (fun _ h9 => h9) rfl hin rfl (by decide +kernel) rfl rfl (Nat.le_of_ble_eq_true rfl) (by decide +kernel : decode prog_11_method_1_code 49 = .ok (.putfield 27, 3)) (fun H locs hP hD hS => ?_)
  have hP : va_P (dC, dI) xCl [(h0, .inr (5, [.int 0, .int 0, .ref q1, .ref q2, .ref q3, .ref q4, .ref q5, .ref q6, .null, .null, .null, .null, .null, .int 0, .null, .int 0, .int 0, .null, .null, .null, .int 0, .null, .int 0])), (q1, .inl (c1, (8, .inr (.inl (fun _ => 0))))), (q2, .inl (c2, (8, .inr (.inl (fun _ => 0))))), (q3, .inl (c3, (8, .inl (fun _ => 0)))), (q4, .inl (c4, (8, .inl (fun _ => 0)))), (q5, .inl (c5, (8, .inl (fun _ => 0)))), (q6, .inl (c6, (64, .inr (.inl (fun _ => 0)))))] H := hP
  have hD : va_D A [(h0, .inr (5, [.int 0, .int 0, .ref q1, .ref q2, .ref q3, .ref q4, .ref q5, .ref q6, .null, .null, .null, .null, .null, .int 0, .null, .int 0, .int 0, .null, .null, .null, .int 0, .null, .int 0])), (q1, .inl (c1, (8, .inr (.inl (fun _ => 0))))), (q2, .inl (c2, (8, .inr (.inl (fun _ => 0))))), (q3, .inl (c3, (8, .inl (fun _ => 0)))), (q4, .inl (c4, (8, .inl (fun _ => 0)))), (q5, .inl (c5, (8, .inl (fun _ => 0)))), (q6, .inl (c6, (64, .inr (.inl (fun _ => 0)))))] := hD
  refine lv_aload_n hx hb (by decide +kernel : decode prog_11_method_1_code 52 = .ok (.aload_n 0, 1)) rfl (lv_at hl 0 rfl) ?_
  refine lv_bipush (v := 64) hx hb (by decide +kernel : decode prog_11_method_1_code 53 = .ok (.bipush 64, 2)) (by decide) ?_
  refine va_newa (D := (dC, dI)) (cl := xCl) (atype := .long) (N' := 64) (a0 := (64, .inr (.inl (fun _ => 0)))) hx hb (hts _ (tc2 tv_87)) rfl hK hP hD hS hA (fun _ => rfl) (by decide) (by decide) (by decide) (by decide : 7 ≤ 16) (by decide : 168 ≤ 2373) (by decide +kernel : decode prog_11_method_1_code 55 = .ok (.newarray .long, 2)) (fun q7 c7 H hK hP hD hS => ?_)
  have hP : va_P (dC, dI) xCl [(h0, .inr (5, [.int 0, .int 0, .ref q1, .ref q2, .ref q3, .ref q4, .ref q5, .ref q6, .null, .null, .null, .null, .null, .int 0, .null, .int 0, .int 0, .null, .null, .null, .int 0, .null, .int 0])), (q1, .inl (c1, (8, .inr (.inl (fun _ => 0))))), (q2, .inl (c2, (8, .inr (.inl (fun _ => 0))))), (q3, .inl (c3, (8, .inl (fun _ => 0)))), (q4, .inl (c4, (8, .inl (fun _ => 0)))), (q5, .inl (c5, (8, .inl (fun _ => 0)))), (q6, .inl (c6, (64, .inr (.inl (fun _ => 0))))), (q7, .inl (c7, (64, .inr (.inl (fun _ => 0)))))] H := hP
  have hD : va_D A [(h0, .inr (5, [.int 0, .int 0, .ref q1, .ref q2, .ref q3, .ref q4, .ref q5, .ref q6, .null, .null, .null, .null, .null, .int 0, .null, .int 0, .int 0, .null, .null, .null, .int 0, .null, .int 0])), (q1, .inl (c1, (8, .inr (.inl (fun _ => 0))))), (q2, .inl (c2, (8, .inr (.inl (fun _ => 0))))), (q3, .inl (c3, (8, .inl (fun _ => 0)))), (q4, .inl (c4, (8, .inl (fun _ => 0)))), (q5, .inl (c5, (8, .inl (fun _ => 0)))), (q6, .inl (c6, (64, .inr (.inl (fun _ => 0))))), (q7, .inl (c7, (64, .inr (.inl (fun _ => 0)))))] := hD
  have hK : va_K (dC, dI) xCl [(c1, .long), (c2, .long), (c3, .int), (c4, .boolean), (c5, .int), (c6, .long), (c7, .long)] s := hK
  refine W.widen (k := 7) (n := 168) (by omega) (by omega) ?_
  refine va_putF (D := (dC, dI)) (ci := 5) (v := .ref q7) (ty := .array .long) (C := RM) (T := FM) (N := 23) hx hb hts tin2_M tM tM_ok nM hown hK hP hD hS 0 rfl rfl 8 (by decide) (hts _ (tc2 tv_774)) (fun _ h9 => h9) rfl hin rfl (by decide +kernel) rfl rfl (Nat.le_of_ble_eq_true rfl) (by decide +kernel : decode prog_11_method_1_code 57 = .ok (.putfield 30, 3)) (fun H locs hP hD hS => ?_)
  have hP : va_P (dC, dI) xCl [(h0, .inr (5, [.int 0, .int 0, .ref q1, .ref q2, .ref q3, .ref q4, .ref q5, .ref q6, .ref q7, .null, .null, .null, .null, .int 0, .null, .int 0, .int 0, .null, .null, .null, .int 0, .null, .int 0])), (q1, .inl (c1, (8, .inr (.inl (fun _ => 0))))), (q2, .inl (c2, (8, .inr (.inl (fun _ => 0))))), (q3, .inl (c3, (8, .inl (fun _ => 0)))), (q4, .inl (c4, (8, .inl (fun _ => 0)))), (q5, .inl (c5, (8, .inl (fun _ => 0)))), (q6, .inl (c6, (64, .inr (.inl (fun _ => 0))))), (q7, .inl (c7, (64, .inr (.inl (fun _ => 0)))))] H := hP
  have hD : va_D A [(h0, .inr (5, [.int 0, .int 0, .ref q1, .ref q2, .ref q3, .ref q4, .ref q5, .ref q6, .ref q7, .null, .null, .null, .null, .int 0, .null, .int 0, .int 0, .null, .null, .null, .int 0, .null, .int 0])), (q1, .inl (c1, (8, .inr (.inl (fun _ => 0))))), (q2, .inl (c2, (8, .inr (.inl (fun _ => 0))))), (q3, .inl (c3, (8, .inl (fun _ => 0)))), (q4, .inl (c4, (8, .inl (fun _ => 0)))), (q5, .inl (c5, (8, .inl (fun _ => 0)))), (q6, .inl (c6, (64, .inr (.inl (fun _ => 0))))), (q7, .inl (c7, (64, .inr (.inl (fun _ => 0)))))] := hD
  refine lv_aload_n hx hb (by decide +kernel : decode prog_11_method_1_code 60 = .ok (.aload_n 0, 1)) rfl (lv_at hl 0 rfl) ?_
  refine lv_bipush (v := 64) hx hb (by decide +kernel : decode prog_11_method_1_code 61 = .ok (.bipush 64, 2)) (by decide) ?_
  refine va_newa (D := (dC, dI)) (cl := xCl) (atype := .long) (N' := 64) (a0 := (64, .inr (.inl (fun _ => 0)))) hx hb (hts _ (tc2 tv_87)) rfl hK hP hD hS hA (fun _ => rfl) (by decide) (by decide) (by decide) (by decide : 8 ≤ 16) (by decide : 232 ≤ 2373) (by decide +kernel : decode prog_11_method_1_code 63 = .ok (.newarray .long, 2)) (fun q8 c8 H hK hP hD hS => ?_)
  have hP : va_P (dC, dI) xCl [(h0, .inr (5, [.int 0, .int 0, .ref q1, .ref q2, .ref q3, .ref q4, .ref q5, .ref q6, .ref q7, .null, .null, .null, .null, .int 0, .null, .int 0, .int 0, .null, .null, .null, .int 0, .null, .int 0])), (q1, .inl (c1, (8, .inr (.inl (fun _ => 0))))), (q2, .inl (c2, (8, .inr (.inl (fun _ => 0))))), (q3, .inl (c3, (8, .inl (fun _ => 0)))), (q4, .inl (c4, (8, .inl (fun _ => 0)))), (q5, .inl (c5, (8, .inl (fun _ => 0)))), (q6, .inl (c6, (64, .inr (.inl (fun _ => 0))))), (q7, .inl (c7, (64, .inr (.inl (fun _ => 0))))), (q8, .inl (c8, (64, .inr (.inl (fun _ => 0)))))] H := hP
  have hD : va_D A [(h0, .inr (5, [.int 0, .int 0, .ref q1, .ref q2, .ref q3, .ref q4, .ref q5, .ref q6, .ref q7, .null, .null, .null, .null, .int 0, .null, .int 0, .int 0, .null, .null, .null, .int 0, .null, .int 0])), (q1, .inl (c1, (8, .inr (.inl (fun _ => 0))))), (q2, .inl (c2, (8, .inr (.inl (fun _ => 0))))), (q3, .inl (c3, (8, .inl (fun _ => 0)))), (q4, .inl (c4, (8, .inl (fun _ => 0)))), (q5, .inl (c5, (8, .inl (fun _ => 0)))), (q6, .inl (c6, (64, .inr (.inl (fun _ => 0))))), (q7, .inl (c7, (64, .inr (.inl (fun _ => 0))))), (q8, .inl (c8, (64, .inr (.inl (fun _ => 0)))))] := hD
  have hK : va_K (dC, dI) xCl [(c1, .long), (c2, .long), (c3, .int), (c4, .boolean), (c5, .int), (c6, .long), (c7, .long), (c8, .long)] s := hK
  refine W.widen (k := 8) (n := 232) (by omega) (by omega) ?_
  refine va_putF (D := (dC, dI)) (ci := 5) (v := .ref q8) (ty := .array .long) (C := RM) (T := FM) (N := 23) hx hb hts tin2_M tM tM_ok nM hown hK hP hD hS 0 rfl rfl 9 (by decide) (hts _ (tc2 tv_775)) (fun _ h9 => h9) rfl hin rfl (by decide +kernel) rfl rfl (Nat.le_of_ble_eq_true rfl) (by decide +kernel : decode prog_11_method_1_code 65 = .ok (.putfield 33, 3)) (fun H locs hP hD hS => ?_)
  have hP : va_P (dC, dI) xCl [(h0, .inr (5, [.int 0, .int 0, .ref q1, .ref q2, .ref q3, .ref q4, .ref q5, .ref q6, .ref q7, .ref q8, .null, .null, .null, .int 0, .null, .int 0, .int 0, .null, .null, .null, .int 0, .null, .int 0])), (q1, .inl (c1, (8, .inr (.inl (fun _ => 0))))), (q2, .inl (c2, (8, .inr (.inl (fun _ => 0))))), (q3, .inl (c3, (8, .inl (fun _ => 0)))), (q4, .inl (c4, (8, .inl (fun _ => 0)))), (q5, .inl (c5, (8, .inl (fun _ => 0)))), (q6, .inl (c6, (64, .inr (.inl (fun _ => 0))))), (q7, .inl (c7, (64, .inr (.inl (fun _ => 0))))), (q8, .inl (c8, (64, .inr (.inl (fun _ => 0)))))] H := hP
  have hD : va_D A [(h0, .inr (5, [.int 0, .int 0, .ref q1, .ref q2, .ref q3, .ref q4, .ref q5, .ref q6, .ref q7, .ref q8, .null, .null, .null, .int 0, .null, .int 0, .int 0, .null, .null, .null, .int 0, .null, .int 0])), (q1, .inl (c1, (8, .inr (.inl (fun _ => 0))))), (q2, .inl (c2, (8, .inr (.inl (fun _ => 0))))), (q3, .inl (c3, (8, .inl (fun _ => 0)))), (q4, .inl (c4, (8, .inl (fun _ => 0)))), (q5, .inl (c5, (8, .inl (fun _ => 0)))), (q6, .inl (c6, (64, .inr (.inl (fun _ => 0))))), (q7, .inl (c7, (64, .inr (.inl (fun _ => 0))))), (q8, .inl (c8, (64, .inr (.inl (fun _ => 0)))))] := hD
  refine lv_aload_n hx hb (by decide +kernel : decode prog_11_method_1_code 68 = .ok (.aload_n 0, 1)) rfl (lv_at hl 0 rfl) ?_
  refine lv_bipush (v := 64) hx hb (by decide +kernel : decode prog_11_method_1_code 69 = .ok (.bipush 64, 2)) (by decide) ?_
  refine va_newa (D := (dC, dI)) (cl := xCl) (atype := .boolean) (N' := 64) (a0 := (64, .inl (fun _ => 0))) hx hb (hts _ (tc2 tv_89)) rfl hK hP hD hS hA (fun _ => rfl) (by decide) (by decide) (by decide) (by decide : 9 ≤ 16) (by decide : 296 ≤ 2373) (by decide +kernel : decode prog_11_method_1_code 71 = .ok (.newarray .boolean, 2)) (fun q9 c9 H hK hP hD hS => ?_)
  have hP : va_P (dC, dI) xCl [(h0, .inr (5, [.int 0, .int 0, .ref q1, .ref q2, .ref q3, .ref q4, .ref q5, .ref q6, .ref q7, .ref q8, .null, .null, .null, .int 0, .null, .int 0, .int 0, .null, .null, .null, .int 0, .null, .int 0])), (q1, .inl (c1, (8, .inr (.inl (fun _ => 0))))), (q2, .inl (c2, (8, .inr (.inl (fun _ => 0))))), (q3, .inl (c3, (8, .inl (fun _ => 0)))), (q4, .inl (c4, (8, .inl (fun _ => 0)))), (q5, .inl (c5, (8, .inl (fun _ => 0)))), (q6, .inl (c6, (64, .inr (.inl (fun _ => 0))))), (q7, .inl (c7, (64, .inr (.inl (fun _ => 0))))), (q8, .inl (c8, (64, .inr (.inl (fun _ => 0))))), (q9, .inl (c9, (64, .inl (fun _ => 0))))] H := hP
  have hD : va_D A [(h0, .inr (5, [.int 0, .int 0, .ref q1, .ref q2, .ref q3, .ref q4, .ref q5, .ref q6, .ref q7, .ref q8, .null, .null, .null, .int 0, .null, .int 0, .int 0, .null, .null, .null, .int 0, .null, .int 0])), (q1, .inl (c1, (8, .inr (.inl (fun _ => 0))))), (q2, .inl (c2, (8, .inr (.inl (fun _ => 0))))), (q3, .inl (c3, (8, .inl (fun _ => 0)))), (q4, .inl (c4, (8, .inl (fun _ => 0)))), (q5, .inl (c5, (8, .inl (fun _ => 0)))), (q6, .inl (c6, (64, .inr (.inl (fun _ => 0))))), (q7, .inl (c7, (64, .inr (.inl (fun _ => 0))))), (q8, .inl (c8, (64, .inr (.inl (fun _ => 0))))), (q9, .inl (c9, (64, .inl (fun _ => 0))))] := hD
  have hK : va_K (dC, dI) xCl [(c1, .long), (c2, .long), (c3, .int), (c4, .boolean), (c5, .int), (c6, .long), (c7, .long), (c8, .long), (c9, .boolean)] s := hK
  refine W.widen (k := 9) (n := 296) (by omega) (by omega) ?_
  refine va_putF (D := (dC, dI)) (ci := 5) (v := .ref q9) (ty := .array .boolean) (C := RM) (T := FM) (N := 23) hx hb hts tin2_M tM tM_ok nM hown hK hP hD hS 0 rfl rfl 10 (by decide) (hts _ (tc2 tv_776)) (fun _ h9 => h9) rfl hin rfl (by decide +kernel) rfl rfl (Nat.le_of_ble_eq_true rfl) (by decide +kernel : decode prog_11_method_1_code 73 = .ok (.putfield 36, 3)) (fun H locs hP hD hS => ?_)
  have hP : va_P (dC, dI) xCl [(h0, .inr (5, [.int 0, .int 0, .ref q1, .ref q2, .ref q3, .ref q4, .ref q5, .ref q6, .ref q7, .ref q8, .ref q9, .null, .null, .int 0, .null, .int 0, .int 0, .null, .null, .null, .int 0, .null, .int 0])), (q1, .inl (c1, (8, .inr (.inl (fun _ => 0))))), (q2, .inl (c2, (8, .inr (.inl (fun _ => 0))))), (q3, .inl (c3, (8, .inl (fun _ => 0)))), (q4, .inl (c4, (8, .inl (fun _ => 0)))), (q5, .inl (c5, (8, .inl (fun _ => 0)))), (q6, .inl (c6, (64, .inr (.inl (fun _ => 0))))), (q7, .inl (c7, (64, .inr (.inl (fun _ => 0))))), (q8, .inl (c8, (64, .inr (.inl (fun _ => 0))))), (q9, .inl (c9, (64, .inl (fun _ => 0))))] H := hP
  have hD : va_D A [(h0, .inr (5, [.int 0, .int 0, .ref q1, .ref q2, .ref q3, .ref q4, .ref q5, .ref q6, .ref q7, .ref q8, .ref q9, .null, .null, .int 0, .null, .int 0, .int 0, .null, .null, .null, .int 0, .null, .int 0])), (q1, .inl (c1, (8, .inr (.inl (fun _ => 0))))), (q2, .inl (c2, (8, .inr (.inl (fun _ => 0))))), (q3, .inl (c3, (8, .inl (fun _ => 0)))), (q4, .inl (c4, (8, .inl (fun _ => 0)))), (q5, .inl (c5, (8, .inl (fun _ => 0)))), (q6, .inl (c6, (64, .inr (.inl (fun _ => 0))))), (q7, .inl (c7, (64, .inr (.inl (fun _ => 0))))), (q8, .inl (c8, (64, .inr (.inl (fun _ => 0))))), (q9, .inl (c9, (64, .inl (fun _ => 0))))] := hD
  refine lv_aload_n hx hb (by decide +kernel : decode prog_11_method_1_code 76 = .ok (.aload_n 0, 1)) rfl (lv_at hl 0 rfl) ?_
  refine lv_bipush (v := 64) hx hb (by decide +kernel : decode prog_11_method_1_code 77 = .ok (.bipush 64, 2)) (by decide) ?_
  refine va_newa (D := (dC, dI)) (cl := xCl) (atype := .boolean) (N' := 64) (a0 := (64, .inl (fun _ => 0))) hx hb (hts _ (tc2 tv_89)) rfl hK hP hD hS hA (fun _ => rfl) (by decide) (by decide) (by decide) (by decide : 10 ≤ 16) (by decide : 360 ≤ 2373) (by decide +kernel : decode prog_11_method_1_code 79 = .ok (.newarray .boolean, 2)) (fun q10 c10 H hK hP hD hS => ?_)
  have hP : va_P (dC, dI) xCl [(h0, .inr (5, [.int 0, .int 0, .ref q1, .ref q2, .ref q3, .ref q4, .ref q5, .ref q6, .ref q7, .ref q8, .ref q9, .null, .null, .int 0, .null, .int 0, .int 0, .null, .null, .null, .int 0, .null, .int 0])), (q1, .inl (c1, (8, .inr (.inl (fun _ => 0))))), (q2, .inl (c2, (8, .inr (.inl (fun _ => 0))))), (q3, .inl (c3, (8, .inl (fun _ => 0)))), (q4, .inl (c4, (8, .inl (fun _ => 0)))), (q5, .inl (c5, (8, .inl (fun _ => 0)))), (q6, .inl (c6, (64, .inr (.inl (fun _ => 0))))), (q7, .inl (c7, (64, .inr (.inl (fun _ => 0))))), (q8, .inl (c8, (64, .inr (.inl (fun _ => 0))))), (q9, .inl (c9, (64, .inl (fun _ => 0)))), (q10, .inl (c10, (64, .inl (fun _ => 0))))] H := hP
  have hD : va_D A [(h0, .inr (5, [.int 0, .int 0, .ref q1, .ref q2, .ref q3, .ref q4, .ref q5, .ref q6, .ref q7, .ref q8, .ref q9, .null, .null, .int 0, .null, .int 0, .int 0, .null, .null, .null, .int 0, .null, .int 0])), (q1, .inl (c1, (8, .inr (.inl (fun _ => 0))))), (q2, .inl (c2, (8, .inr (.inl (fun _ => 0))))), (q3, .inl (c3, (8, .inl (fun _ => 0)))), (q4, .inl (c4, (8, .inl (fun _ => 0)))), (q5, .inl (c5, (8, .inl (fun _ => 0)))), (q6, .inl (c6, (64, .inr (.inl (fun _ => 0))))), (q7, .inl (c7, (64, .inr (.inl (fun _ => 0))))), (q8, .inl (c8, (64, .inr (.inl (fun _ => 0))))), (q9, .inl (c9, (64, .inl (fun _ => 0)))), (q10, .inl (c10, (64, .inl (fun _ => 0))))] := hD
  have hK : va_K (dC, dI) xCl [(c1, .long), (c2, .long), (c3, .int), (c4, .boolean), (c5, .int), (c6, .long), (c7, .long), (c8, .long), (c9, .boolean), (c10, .boolean)] s := hK
  refine W.widen (k := 10) (n := 360) (by omega) (by omega) ?_
  refine va_putF (D := (dC, dI)) (ci := 5) (v := .ref q10) (ty := .array .boolean) (C := RM) (T := FM) (N := 23) hx hb hts tin2_M tM tM_ok nM hown hK hP hD hS 0 rfl rfl 11 (by decide) (hts _ (tc2 tv_777)) (fun _ h9 => h9) rfl hin rfl (by decide +kernel) rfl rfl (Nat.le_of_ble_eq_true rfl) (by decide +kernel : decode prog_11_method_1_code 81 = .ok (.putfield 39, 3)) (fun H locs hP hD hS => ?_)
  have hP : va_P (dC, dI) xCl [(h0, .inr (5, [.int 0, .int 0, .ref q1, .ref q2, .ref q3, .ref q4, .ref q5, .ref q6, .ref q7, .ref q8, .ref q9, .ref q10, .null, .int 0, .null, .int 0, .int 0, .null, .null, .null, .int 0, .null, .int 0])), (q1, .inl (c1, (8, .inr (.inl (fun _ => 0))))), (q2, .inl (c2, (8, .inr (.inl (fun _ => 0))))), (q3, .inl (c3, (8, .inl (fun _ => 0)))), (q4, .inl (c4, (8, .inl (fun _ => 0)))), (q5, .inl (c5, (8, .inl (fun _ => 0)))), (q6, .inl (c6, (64, .inr (.inl (fun _ => 0))))), (q7, .inl (c7, (64, .inr (.inl (fun _ => 0))))), (q8, .inl (c8, (64, .inr (.inl (fun _ => 0))))), (q9, .inl (c9, (64, .inl (fun _ => 0)))), (q10, .inl (c10, (64, .inl (fun _ => 0))))] H := hP
  have hD : va_D A [(h0, .inr (5, [.int 0, .int 0, .ref q1, .ref q2, .ref q3, .ref q4, .ref q5, .ref q6, .ref q7, .ref q8, .ref q9, .ref q10, .null, .int 0, .null, .int 0, .int 0, .null, .null, .null, .int 0, .null, .int 0])), (q1, .inl (c1, (8, .inr (.inl (fun _ => 0))))), (q2, .inl (c2, (8, .inr (.inl (fun _ => 0))))), (q3, .inl (c3, (8, .inl (fun _ => 0)))), (q4, .inl (c4, (8, .inl (fun _ => 0)))), (q5, .inl (c5, (8, .inl (fun _ => 0)))), (q6, .inl (c6, (64, .inr (.inl (fun _ => 0))))), (q7, .inl (c7, (64, .inr (.inl (fun _ => 0))))), (q8, .inl (c8, (64, .inr (.inl (fun _ => 0))))), (q9, .inl (c9, (64, .inl (fun _ => 0)))), (q10, .inl (c10, (64, .inl (fun _ => 0))))] := hD
  refine lv_aload_n hx hb (by decide +kernel : decode prog_11_method_1_code 84 = .ok (.aload_n 0, 1)) rfl (lv_at hl 0 rfl) ?_
  refine lv_sipush (v := 480) hx hb (by decide +kernel : decode prog_11_method_1_code 85 = .ok (.sipush 480, 3)) (by decide) ?_
  refine va_newa (D := (dC, dI)) (cl := xCl) (atype := .int) (N' := 480) (a0 := (480, .inl (fun _ => 0))) hx hb (hts _ (tc2 tv_88)) rfl hK hP hD hS hA (fun _ => rfl) (by decide) (by decide) (by decide) (by decide : 11 ≤ 16) (by decide : 840 ≤ 2373) (by decide +kernel : decode prog_11_method_1_code 88 = .ok (.newarray .int, 2)) (fun q11 c11 H hK hP hD hS => ?_)
  have hP : va_P (dC, dI) xCl [(h0, .inr (5, [.int 0, .int 0, .ref q1, .ref q2, .ref q3, .ref q4, .ref q5, .ref q6, .ref q7, .ref q8, .ref q9, .ref q10, .null, .int 0, .null, .int 0, .int 0, .null, .null, .null, .int 0, .null, .int 0])), (q1, .inl (c1, (8, .inr (.inl (fun _ => 0))))), (q2, .inl (c2, (8, .inr (.inl (fun _ => 0))))), (q3, .inl (c3, (8, .inl (fun _ => 0)))), (q4, .inl (c4, (8, .inl (fun _ => 0)))), (q5, .inl (c5, (8, .inl (fun _ => 0)))), (q6, .inl (c6, (64, .inr (.inl (fun _ => 0))))), (q7, .inl (c7, (64, .inr (.inl (fun _ => 0))))), (q8, .inl (c8, (64, .inr (.inl (fun _ => 0))))), (q9, .inl (c9, (64, .inl (fun _ => 0)))), (q10, .inl (c10, (64, .inl (fun _ => 0)))), (q11, .inl (c11, (480, .inl (fun _ => 0))))] H := hP
  have hD : va_D A [(h0, .inr (5, [.int 0, .int 0, .ref q1, .ref q2, .ref q3, .ref q4, .ref q5, .ref q6, .ref q7, .ref q8, .ref q9, .ref q10, .null, .int 0, .null, .int 0, .int 0, .null, .null, .null, .int 0, .null, .int 0])), (q1, .inl (c1, (8, .inr (.inl (fun _ => 0))))), (q2, .inl (c2, (8, .inr (.inl (fun _ => 0))))), (q3, .inl (c3, (8, .inl (fun _ => 0)))), (q4, .inl (c4, (8, .inl (fun _ => 0)))), (q5, .inl (c5, (8, .inl (fun _ => 0)))), (q6, .inl (c6, (64, .inr (.inl (fun _ => 0))))), (q7, .inl (c7, (64, .inr (.inl (fun _ => 0))))), (q8, .inl (c8, (64, .inr (.inl (fun _ => 0))))), (q9, .inl (c9, (64, .inl (fun _ => 0)))), (q10, .inl (c10, (64, .inl (fun _ => 0)))), (q11, .inl (c11, (480, .inl (fun _ => 0))))] := hD
  have hK : va_K (dC, dI) xCl [(c1, .long), (c2, .long), (c3, .int), (c4, .boolean), (c5, .int), (c6, .long), (c7, .long), (c8, .long), (c9, .boolean), (c10, .boolean), (c11, .int)] s := hK
  refine W.widen (k := 11) (n := 840) (by omega) (by omega) ?_
  refine va_putF (D := (dC, dI)) (ci := 5) (v := .ref q11) (ty := .array .int) (C := RM) (T := FM) (N := 23) hx hb hts tin2_M tM tM_ok nM hown hK hP hD hS 0 rfl rfl 12 (by decide) (hts _ (tc2 tv_778)) (fun _ h9 => h9) rfl hin rfl (by decide +kernel) rfl rfl (Nat.le_of_ble_eq_true rfl) (by decide +kernel : decode prog_11_method_1_code 90 = .ok (.putfield 42, 3)) (fun H locs hP hD hS => ?_)
  have hP : va_P (dC, dI) xCl [(h0, .inr (5, [.int 0, .int 0, .ref q1, .ref q2, .ref q3, .ref q4, .ref q5, .ref q6, .ref q7, .ref q8, .ref q9, .ref q10, .ref q11, .int 0, .null, .int 0, .int 0, .null, .null, .null, .int 0, .null, .int 0])), (q1, .inl (c1, (8, .inr (.inl (fun _ => 0))))), (q2, .inl (c2, (8, .inr (.inl (fun _ => 0))))), (q3, .inl (c3, (8, .inl (fun _ => 0)))), (q4, .inl (c4, (8, .inl (fun _ => 0)))), (q5, .inl (c5, (8, .inl (fun _ => 0)))), (q6, .inl (c6, (64, .inr (.inl (fun _ => 0))))), (q7, .inl (c7, (64, .inr (.inl (fun _ => 0))))), (q8, .inl (c8, (64, .inr (.inl (fun _ => 0))))), (q9, .inl (c9, (64, .inl (fun _ => 0)))), (q10, .inl (c10, (64, .inl (fun _ => 0)))), (q11, .inl (c11, (480, .inl (fun _ => 0))))] H := hP
  have hD : va_D A [(h0, .inr (5, [.int 0, .int 0, .ref q1, .ref q2, .ref q3, .ref q4, .ref q5, .ref q6, .ref q7, .ref q8, .ref q9, .ref q10, .ref q11, .int 0, .null, .int 0, .int 0, .null, .null, .null, .int 0, .null, .int 0])), (q1, .inl (c1, (8, .inr (.inl (fun _ => 0))))), (q2, .inl (c2, (8, .inr (.inl (fun _ => 0))))), (q3, .inl (c3, (8, .inl (fun _ => 0)))), (q4, .inl (c4, (8, .inl (fun _ => 0)))), (q5, .inl (c5, (8, .inl (fun _ => 0)))), (q6, .inl (c6, (64, .inr (.inl (fun _ => 0))))), (q7, .inl (c7, (64, .inr (.inl (fun _ => 0))))), (q8, .inl (c8, (64, .inr (.inl (fun _ => 0))))), (q9, .inl (c9, (64, .inl (fun _ => 0)))), (q10, .inl (c10, (64, .inl (fun _ => 0)))), (q11, .inl (c11, (480, .inl (fun _ => 0))))] := hD
  refine lv_aload_n hx hb (by decide +kernel : decode prog_11_method_1_code 93 = .ok (.aload_n 0, 1)) rfl (lv_at hl 0 rfl) ?_
  refine lv_sipush (v := 480) hx hb (by decide +kernel : decode prog_11_method_1_code 94 = .ok (.sipush 480, 3)) (by decide) ?_
  refine va_newa (D := (dC, dI)) (cl := xCl) (atype := .int) (N' := 480) (a0 := (480, .inl (fun _ => 0))) hx hb (hts _ (tc2 tv_88)) rfl hK hP hD hS hA (fun _ => rfl) (by decide) (by decide) (by decide) (by decide : 12 ≤ 16) (by decide : 1320 ≤ 2373) (by decide +kernel : decode prog_11_method_1_code 97 = .ok (.newarray .int, 2)) (fun q12 c12 H hK hP hD hS => ?_)
  have hP : va_P (dC, dI) xCl [(h0, .inr (5, [.int 0, .int 0, .ref q1, .ref q2, .ref q3, .ref q4, .ref q5, .ref q6, .ref q7, .ref q8, .ref q9, .ref q10, .ref q11, .int 0, .null, .int 0, .int 0, .null, .null, .null, .int 0, .null, .int 0])), (q1, .inl (c1, (8, .inr (.inl (fun _ => 0))))), (q2, .inl (c2, (8, .inr (.inl (fun _ => 0))))), (q3, .inl (c3, (8, .inl (fun _ => 0)))), (q4, .inl (c4, (8, .inl (fun _ => 0)))), (q5, .inl (c5, (8, .inl (fun _ => 0)))), (q6, .inl (c6, (64, .inr (.inl (fun _ => 0))))), (q7, .inl (c7, (64, .inr (.inl (fun _ => 0))))), (q8, .inl (c8, (64, .inr (.inl (fun _ => 0))))), (q9, .inl (c9, (64, .inl (fun _ => 0)))), (q10, .inl (c10, (64, .inl (fun _ => 0)))), (q11, .inl (c11, (480, .inl (fun _ => 0)))), (q12, .inl (c12, (480, .inl (fun _ => 0))))] H := hP
  have hD : va_D A [(h0, .inr (5, [.int 0, .int 0, .ref q1, .ref q2, .ref q3, .ref q4, .ref q5, .ref q6, .ref q7, .ref q8, .ref q9, .ref q10, .ref q11, .int 0, .null, .int 0, .int 0, .null, .null, .null, .int 0, .null, .int 0])), (q1, .inl (c1, (8, .inr (.inl (fun _ => 0))))), (q2, .inl (c2, (8, .inr (.inl (fun _ => 0))))), (q3, .inl (c3, (8, .inl (fun _ => 0)))), (q4, .inl (c4, (8, .inl (fun _ => 0)))), (q5, .inl (c5, (8, .inl (fun _ => 0)))), (q6, .inl (c6, (64, .inr (.inl (fun _ => 0))))), (q7, .inl (c7, (64, .inr (.inl (fun _ => 0))))), (q8, .inl (c8, (64, .inr (.inl (fun _ => 0))))), (q9, .inl (c9, (64, .inl (fun _ => 0)))), (q10, .inl (c10, (64, .inl (fun _ => 0)))), (q11, .inl (c11, (480, .inl (fun _ => 0)))), (q12, .inl (c12, (480, .inl (fun _ => 0))))] := hD
  have hK : va_K (dC, dI) xCl [(c1, .long), (c2, .long), (c3, .int), (c4, .boolean), (c5, .int), (c6, .long), (c7, .long), (c8, .long), (c9, .boolean), (c10, .boolean), (c11, .int), (c12, .int)] s := hK
  refine W.widen (k := 12) (n := 1320) (by omega) (by omega) ?_
  refine va_putF (D := (dC, dI)) (ci := 5) (v := .ref q12) (ty := .array .int) (C := RM) (T := FM) (N := 23) hx hb hts tin2_M tM tM_ok nM hown hK hP hD hS 0 rfl rfl 14 (by decide) (hts _ (tc2 tv_780)) (fun _ h9 => h9) rfl hin rfl (by decide +kernel) rfl rfl (Nat.le_of_ble_eq_true rfl) (by decide +kernel : decode prog_11_method_1_code 99 = .ok (.putfield 45, 3)) (fun H locs hP hD hS => ?_)
  have hP : va_P (dC, dI) xCl [(h0, .inr (5, [.int 0, .int 0, .ref q1, .ref q2, .ref q3, .ref q4, .ref q5, .ref q6, .ref q7, .ref q8, .ref q9, .ref q10, .ref q11, .int 0, .ref q12, .int 0, .int 0, .null, .null, .null, .int 0, .null, .int 0])), (q1, .inl (c1, (8, .inr (.inl (fun _ => 0))))), (q2, .inl (c2, (8, .inr (.inl (fun _ => 0))))), (q3, .inl (c3, (8, .inl (fun _ => 0)))), (q4, .inl (c4, (8, .inl (fun _ => 0)))), (q5, .inl (c5, (8, .inl (fun _ => 0)))), (q6, .inl (c6, (64, .inr (.inl (fun _ => 0))))), (q7, .inl (c7, (64, .inr (.inl (fun _ => 0))))), (q8, .inl (c8, (64, .inr (.inl (fun _ => 0))))), (q9, .inl (c9, (64, .inl (fun _ => 0)))), (q10, .inl (c10, (64, .inl (fun _ => 0)))), (q11, .inl (c11, (480, .inl (fun _ => 0)))), (q12, .inl (c12, (480, .inl (fun _ => 0))))] H := hP
  have hD : va_D A [(h0, .inr (5, [.int 0, .int 0, .ref q1, .ref q2, .ref q3, .ref q4, .ref q5, .ref q6, .ref q7, .ref q8, .ref q9, .ref q10, .ref q11, .int 0, .ref q12, .int 0, .int 0, .null, .null, .null, .int 0, .null, .int 0])), (q1, .inl (c1, (8, .inr (.inl (fun _ => 0))))), (q2, .inl (c2, (8, .inr (.inl (fun _ => 0))))), (q3, .inl (c3, (8, .inl (fun _ => 0)))), (q4, .inl (c4, (8, .inl (fun _ => 0)))), (q5, .inl (c5, (8, .inl (fun _ => 0)))), (q6, .inl (c6, (64, .inr (.inl (fun _ => 0))))), (q7, .inl (c7, (64, .inr (.inl (fun _ => 0))))), (q8, .inl (c8, (64, .inr (.inl (fun _ => 0))))), (q9, .inl (c9, (64, .inl (fun _ => 0)))), (q10, .inl (c10, (64, .inl (fun _ => 0)))), (q11, .inl (c11, (480, .inl (fun _ => 0)))), (q12, .inl (c12, (480, .inl (fun _ => 0))))] := hD
  refine lv_aload_n hx hb (by decide +kernel : decode prog_11_method_1_code 102 = .ok (.aload_n 0, 1)) rfl (lv_at hl 0 rfl) ?_
  refine lv_sipush (v := 960) hx hb (by decide +kernel : decode prog_11_method_1_code 103 = .ok (.sipush 960, 3)) (by decide) ?_
  refine va_newa (D := (dC, dI)) (cl := xCl) (atype := .int) (N' := 960) (a0 := (960, .inl (fun _ => 0))) hx hb (hts _ (tc2 tv_88)) rfl hK hP hD hS hA (fun _ => rfl) (by decide) (by decide) (by decide) (by decide : 13 ≤ 16) (by decide : 2280 ≤ 2373) (by decide +kernel : decode prog_11_method_1_code 106 = .ok (.newarray .int, 2)) (fun q13 c13 H hK hP hD hS => ?_)
  have hP : va_P (dC, dI) xCl [(h0, .inr (5, [.int 0, .int 0, .ref q1, .ref q2, .ref q3, .ref q4, .ref q5, .ref q6, .ref q7, .ref q8, .ref q9, .ref q10, .ref q11, .int 0, .ref q12, .int 0, .int 0, .null, .null, .null, .int 0, .null, .int 0])), (q1, .inl (c1, (8, .inr (.inl (fun _ => 0))))), (q2, .inl (c2, (8, .inr (.inl (fun _ => 0))))), (q3, .inl (c3, (8, .inl (fun _ => 0)))), (q4, .inl (c4, (8, .inl (fun _ => 0)))), (q5, .inl (c5, (8, .inl (fun _ => 0)))), (q6, .inl (c6, (64, .inr (.inl (fun _ => 0))))), (q7, .inl (c7, (64, .inr (.inl (fun _ => 0))))), (q8, .inl (c8, (64, .inr (.inl (fun _ => 0))))), (q9, .inl (c9, (64, .inl (fun _ => 0)))), (q10, .inl (c10, (64, .inl (fun _ => 0)))), (q11, .inl (c11, (480, .inl (fun _ => 0)))), (q12, .inl (c12, (480, .inl (fun _ => 0)))), (q13, .inl (c13, (960, .inl (fun _ => 0))))] H := hP
  have hD : va_D A [(h0, .inr (5, [.int 0, .int 0, .ref q1, .ref q2, .ref q3, .ref q4, .ref q5, .ref q6, .ref q7, .ref q8, .ref q9, .ref q10, .ref q11, .int 0, .ref q12, .int 0, .int 0, .null, .null, .null, .int 0, .null, .int 0])), (q1, .inl (c1, (8, .inr (.inl (fun _ => 0))))), (q2, .inl (c2, (8, .inr (.inl (fun _ => 0))))), (q3, .inl (c3, (8, .inl (fun _ => 0)))), (q4, .inl (c4, (8, .inl (fun _ => 0)))), (q5, .inl (c5, (8, .inl (fun _ => 0)))), (q6, .inl (c6, (64, .inr (.inl (fun _ => 0))))), (q7, .inl (c7, (64, .inr (.inl (fun _ => 0))))), (q8, .inl (c8, (64, .inr (.inl (fun _ => 0))))), (q9, .inl (c9, (64, .inl (fun _ => 0)))), (q10, .inl (c10, (64, .inl (fun _ => 0)))), (q11, .inl (c11, (480, .inl (fun _ => 0)))), (q12, .inl (c12, (480, .inl (fun _ => 0)))), (q13, .inl (c13, (960, .inl (fun _ => 0))))] := hD
  have hK : va_K (dC, dI) xCl [(c1, .long), (c2, .long), (c3, .int), (c4, .boolean), (c5, .int), (c6, .long), (c7, .long), (c8, .long), (c9, .boolean), (c10, .boolean), (c11, .int), (c12, .int), (c13, .int)] s := hK
  refine W.widen (k := 13) (n := 2280) (by omega) (by omega) ?_
  refine va_putF (D := (dC, dI)) (ci := 5) (v := .ref q13) (ty := .array .int) (C := RM) (T := FM) (N := 23) hx hb hts tin2_M tM tM_ok nM hown hK hP hD hS 0 rfl rfl 17 (by decide) (hts _ (tc2 tv_783)) (fun _ h9 => h9) rfl hin rfl (by decide +kernel) rfl rfl (Nat.le_of_ble_eq_true rfl) (by decide +kernel : decode prog_11_method_1_code 108 = .ok (.putfield 48, 3)) (fun H locs hP hD hS => ?_)
  have hP : va_P (dC, dI) xCl [(h0, .inr (5, [.int 0, .int 0, .ref q1, .ref q2, .ref q3, .ref q4, .ref q5, .ref q6, .ref q7, .ref q8, .ref q9, .ref q10, .ref q11, .int 0, .ref q12, .int 0, .int 0, .ref q13, .null, .null, .int 0, .null, .int 0])), (q1, .inl (c1, (8, .inr (.inl (fun _ => 0))))), (q2, .inl (c2, (8, .inr (.inl (fun _ => 0))))), (q3, .inl (c3, (8, .inl (fun _ => 0)))), (q4, .inl (c4, (8, .inl (fun _ => 0)))), (q5, .inl (c5, (8, .inl (fun _ => 0)))), (q6, .inl (c6, (64, .inr (.inl (fun _ => 0))))), (q7, .inl (c7, (64, .inr (.inl (fun _ => 0))))), (q8, .inl (c8, (64, .inr (.inl (fun _ => 0))))), (q9, .inl (c9, (64, .inl (fun _ => 0)))), (q10, .inl (c10, (64, .inl (fun _ => 0)))), (q11, .inl (c11, (480, .inl (fun _ => 0)))), (q12, .inl (c12, (480, .inl (fun _ => 0)))), (q13, .inl (c13, (960, .inl (fun _ => 0))))] H := hP
  have hD : va_D A [(h0, .inr (5, [.int 0, .int 0, .ref q1, .ref q2, .ref q3, .ref q4, .ref q5, .ref q6, .ref q7, .ref q8, .ref q9, .ref q10, .ref q11, .int 0, .ref q12, .int 0, .int 0, .ref q13, .null, .null, .int 0, .null, .int 0])), (q1, .inl (c1, (8, .inr (.inl (fun _ => 0))))), (q2, .inl (c2, (8, .inr (.inl (fun _ => 0))))), (q3, .inl (c3, (8, .inl (fun _ => 0)))), (q4, .inl (c4, (8, .inl (fun _ => 0)))), (q5, .inl (c5, (8, .inl (fun _ => 0)))), (q6, .inl (c6, (64, .inr (.inl (fun _ => 0))))), (q7, .inl (c7, (64, .inr (.inl (fun _ => 0))))), (q8, .inl (c8, (64, .inr (.inl (fun _ => 0))))), (q9, .inl (c9, (64, .inl (fun _ => 0)))), (q10, .inl (c10, (64, .inl (fun _ => 0)))), (q11, .inl (c11, (480, .inl (fun _ => 0)))), (q12, .inl (c12, (480, .inl (fun _ => 0)))), (q13, .inl (c13, (960, .inl (fun _ => 0))))] := hD
  refine lv_aload_n hx hb (by decide +kernel : decode prog_11_method_1_code 111 = .ok (.aload_n 0, 1)) rfl (lv_at hl 0 rfl) ?_
  refine lv_bipush (v := 15) hx hb (by decide +kernel : decode prog_11_method_1_code 112 = .ok (.bipush 15, 2)) (by decide) ?_
  refine va_newa (D := (dC, dI)) (cl := xCl) (atype := .int) (N' := 15) (a0 := (15, .inl (fun _ => 0))) hx hb (hts _ (tc2 tv_88)) rfl hK hP hD hS hA (fun _ => rfl) (by decide) (by decide) (by decide) (by decide : 14 ≤ 16) (by decide : 2295 ≤ 2373) (by decide +kernel : decode prog_11_method_1_code 114 = .ok (.newarray .int, 2)) (fun q14 c14 H hK hP hD hS => ?_)
  have hP : va_P (dC, dI) xCl [(h0, .inr (5, [.int 0, .int 0, .ref q1, .ref q2, .ref q3, .ref q4, .ref q5, .ref q6, .ref q7, .ref q8, .ref q9, .ref q10, .ref q11, .int 0, .ref q12, .int 0, .int 0, .ref q13, .null, .null, .int 0, .null, .int 0])), (q1, .inl (c1, (8, .inr (.inl (fun _ => 0))))), (q2, .inl (c2, (8, .inr (.inl (fun _ => 0))))), (q3, .inl (c3, (8, .inl (fun _ => 0)))), (q4, .inl (c4, (8, .inl (fun _ => 0)))), (q5, .inl (c5, (8, .inl (fun _ => 0)))), (q6, .inl (c6, (64, .inr (.inl (fun _ => 0))))), (q7, .inl (c7, (64, .inr (.inl (fun _ => 0))))), (q8, .inl (c8, (64, .inr (.inl (fun _ => 0))))), (q9, .inl (c9, (64, .inl (fun _ => 0)))), (q10, .inl (c10, (64, .inl (fun _ => 0)))), (q11, .inl (c11, (480, .inl (fun _ => 0)))), (q12, .inl (c12, (480, .inl (fun _ => 0)))), (q13, .inl (c13, (960, .inl (fun _ => 0)))), (q14, .inl (c14, (15, .inl (fun _ => 0))))] H := hP
  have hD : va_D A [(h0, .inr (5, [.int 0, .int 0, .ref q1, .ref q2, .ref q3, .ref q4, .ref q5, .ref q6, .ref q7, .ref q8, .ref q9, .ref q10, .ref q11, .int 0, .ref q12, .int 0, .int 0, .ref q13, .null, .null, .int 0, .null, .int 0])), (q1, .inl (c1, (8, .inr (.inl (fun _ => 0))))), (q2, .inl (c2, (8, .inr (.inl (fun _ => 0))))), (q3, .inl (c3, (8, .inl (fun _ => 0)))), (q4, .inl (c4, (8, .inl (fun _ => 0)))), (q5, .inl (c5, (8, .inl (fun _ => 0)))), (q6, .inl (c6, (64, .inr (.inl (fun _ => 0))))), (q7, .inl (c7, (64, .inr (.inl (fun _ => 0))))), (q8, .inl (c8, (64, .inr (.inl (fun _ => 0))))), (q9, .inl (c9, (64, .inl (fun _ => 0)))), (q10, .inl (c10, (64, .inl (fun _ => 0)))), (q11, .inl (c11, (480, .inl (fun _ => 0)))), (q12, .inl (c12, (480, .inl (fun _ => 0)))), (q13, .inl (c13, (960, .inl (fun _ => 0)))), (q14, .inl (c14, (15, .inl (fun _ => 0))))] := hD
  have hK : va_K (dC, dI) xCl [(c1, .long), (c2, .long), (c3, .int), (c4, .boolean), (c5, .int), (c6, .long), (c7, .long), (c8, .long), (c9, .boolean), (c10, .boolean), (c11, .int), (c12, .int), (c13, .int), (c14, .int)] s := hK
  refine W.widen (k := 14) (n := 2295) (by omega) (by omega) ?_
  refine va_putF (D := (dC, dI)) (ci := 5) (v := .ref q14) (ty := .array .int) (C := RM) (T := FM) (N := 23) hx hb hts tin2_M tM tM_ok nM hown hK hP hD hS 0 rfl rfl 18 (by decide) (hts _ (tc2 tv_784)) (fun _ h9 => h9) rfl hin rfl (by decide +kernel) rfl rfl (Nat.le_of_ble_eq_true rfl) (by decide +kernel : decode prog_11_method_1_code 116 = .ok (.putfield 51, 3)) (fun H locs hP hD hS => ?_)
  have hP : va_P (dC, dI) xCl [(h0, .inr (5, [.int 0, .int 0, .ref q1, .ref q2, .ref q3, .ref q4, .ref q5, .ref q6, .ref q7, .ref q8, .ref q9, .ref q10, .ref q11, .int 0, .ref q12, .int 0, .int 0, .ref q13, .ref q14, .null, .int 0, .null, .int 0])), (q1, .inl (c1, (8, .inr (.inl (fun _ => 0))))), (q2, .inl (c2, (8, .inr (.inl (fun _ => 0))))), (q3, .inl (c3, (8, .inl (fun _ => 0)))), (q4, .inl (c4, (8, .inl (fun _ => 0)))), (q5, .inl (c5, (8, .inl (fun _ => 0)))), (q6, .inl (c6, (64, .inr (.inl (fun _ => 0))))), (q7, .inl (c7, (64, .inr (.inl (fun _ => 0))))), (q8, .inl (c8, (64, .inr (.inl (fun _ => 0))))), (q9, .inl (c9, (64, .inl (fun _ => 0)))), (q10, .inl (c10, (64, .inl (fun _ => 0)))), (q11, .inl (c11, (480, .inl (fun _ => 0)))), (q12, .inl (c12, (480, .inl (fun _ => 0)))), (q13, .inl (c13, (960, .inl (fun _ => 0)))), (q14, .inl (c14, (15, .inl (fun _ => 0))))] H := hP
  have hD : va_D A [(h0, .inr (5, [.int 0, .int 0, .ref q1, .ref q2, .ref q3, .ref q4, .ref q5, .ref q6, .ref q7, .ref q8, .ref q9, .ref q10, .ref q11, .int 0, .ref q12, .int 0, .int 0, .ref q13, .ref q14, .null, .int 0, .null, .int 0])), (q1, .inl (c1, (8, .inr (.inl (fun _ => 0))))), (q2, .inl (c2, (8, .inr (.inl (fun _ => 0))))), (q3, .inl (c3, (8, .inl (fun _ => 0)))), (q4, .inl (c4, (8, .inl (fun _ => 0)))), (q5, .inl (c5, (8, .inl (fun _ => 0)))), (q6, .inl (c6, (64, .inr (.inl (fun _ => 0))))), (q7, .inl (c7, (64, .inr (.inl (fun _ => 0))))), (q8, .inl (c8, (64, .inr (.inl (fun _ => 0))))), (q9, .inl (c9, (64, .inl (fun _ => 0)))), (q10, .inl (c10, (64, .inl (fun _ => 0)))), (q11, .inl (c11, (480, .inl (fun _ => 0)))), (q12, .inl (c12, (480, .inl (fun _ => 0)))), (q13, .inl (c13, (960, .inl (fun _ => 0)))), (q14, .inl (c14, (15, .inl (fun _ => 0))))] := hD
  refine lv_aload_n hx hb (by decide +kernel : decode prog_11_method_1_code 119 = .ok (.aload_n 0, 1)) rfl (lv_at hl 0 rfl) ?_
  refine lv_bipush (v := 64) hx hb (by decide +kernel : decode prog_11_method_1_code 120 = .ok (.bipush 64, 2)) (by decide) ?_
  refine va_newa (D := (dC, dI)) (cl := xCl) (atype := .int) (N' := 64) (a0 := (64, .inl (fun _ => 0))) hx hb (hts _ (tc2 tv_88)) rfl hK hP hD hS hA (fun _ => rfl) (by decide) (by decide) (by decide) (by decide : 15 ≤ 16) (by decide : 2359 ≤ 2373) (by decide +kernel : decode prog_11_method_1_code 122 = .ok (.newarray .int, 2)) (fun q15 c15 H hK hP hD hS => ?_)
  have hP : va_P (dC, dI) xCl [(h0, .inr (5, [.int 0, .int 0, .ref q1, .ref q2, .ref q3, .ref q4, .ref q5, .ref q6, .ref q7, .ref q8, .ref q9, .ref q10, .ref q11, .int 0, .ref q12, .int 0, .int 0, .ref q13, .ref q14, .null, .int 0, .null, .int 0])), (q1, .inl (c1, (8, .inr (.inl (fun _ => 0))))), (q2, .inl (c2, (8, .inr (.inl (fun _ => 0))))), (q3, .inl (c3, (8, .inl (fun _ => 0)))), (q4, .inl (c4, (8, .inl (fun _ => 0)))), (q5, .inl (c5, (8, .inl (fun _ => 0)))), (q6, .inl (c6, (64, .inr (.inl (fun _ => 0))))), (q7, .inl (c7, (64, .inr (.inl (fun _ => 0))))), (q8, .inl (c8, (64, .inr (.inl (fun _ => 0))))), (q9, .inl (c9, (64, .inl (fun _ => 0)))), (q10, .inl (c10, (64, .inl (fun _ => 0)))), (q11, .inl (c11, (480, .inl (fun _ => 0)))), (q12, .inl (c12, (480, .inl (fun _ => 0)))), (q13, .inl (c13, (960, .inl (fun _ => 0)))), (q14, .inl (c14, (15, .inl (fun _ => 0)))), (q15, .inl (c15, (64, .inl (fun _ => 0))))] H := hP
  have hD : va_D A [(h0, .inr (5, [.int 0, .int 0, .ref q1, .ref q2, .ref q3, .ref q4, .ref q5, .ref q6, .ref q7, .ref q8, .ref q9, .ref q10, .ref q11, .int 0, .ref q12, .int 0, .int 0, .ref q13, .ref q14, .null, .int 0, .null, .int 0])), (q1, .inl (c1, (8, .inr (.inl (fun _ => 0))))), (q2, .inl (c2, (8, .inr (.inl (fun _ => 0))))), (q3, .inl (c3, (8, .inl (fun _ => 0)))), (q4, .inl (c4, (8, .inl (fun _ => 0)))), (q5, .inl (c5, (8, .inl (fun _ => 0)))), (q6, .inl (c6, (64, .inr (.inl (fun _ => 0))))), (q7, .inl (c7, (64, .inr (.inl (fun _ => 0))))), (q8, .inl (c8, (64, .inr (.inl (fun _ => 0))))), (q9, .inl (c9, (64, .inl (fun _ => 0)))), (q10, .inl (c10, (64, .inl (fun _ => 0)))), (q11, .inl (c11, (480, .inl (fun _ => 0)))), (q12, .inl (c12, (480, .inl (fun _ => 0)))), (q13, .inl (c13, (960, .inl (fun _ => 0)))), (q14, .inl (c14, (15, .inl (fun _ => 0)))), (q15, .inl (c15, (64, .inl (fun _ => 0))))] := hD
  have hK : va_K (dC, dI) xCl [(c1, .long), (c2, .long), (c3, .int), (c4, .boolean), (c5, .int), (c6, .long), (c7, .long), (c8, .long), (c9, .boolean), (c10, .boolean), (c11, .int), (c12, .int), (c13, .int), (c14, .int), (c15, .int)] s := hK
  refine W.widen (k := 15) (n := 2359) (by omega) (by omega) ?_
  refine va_putF (D := (dC, dI)) (ci := 5) (v := .ref q15) (ty := .array .int) (C := RM) (T := FM) (N := 23) hx hb hts tin2_M tM tM_ok nM hown hK hP hD hS 0 rfl rfl 19 (by decide) (hts _ (tc2 tv_785)) (fun _ h9 => h9) rfl hin rfl (by decide +kernel) rfl rfl (Nat.le_of_ble_eq_true rfl) (by decide +kernel : decode prog_11_method_1_code 124 = .ok (.putfield 54, 3)) (fun H locs hP hD hS => ?_)
  have hP : va_P (dC, dI) xCl [(h0, .inr (5, [.int 0, .int 0, .ref q1, .ref q2, .ref q3, .ref q4, .ref q5, .ref q6, .ref q7, .ref q8, .ref q9, .ref q10, .ref q11, .int 0, .ref q12, .int 0, .int 0, .ref q13, .ref q14, .ref q15, .int 0, .null, .int 0])), (q1, .inl (c1, (8, .inr (.inl (fun _ => 0))))), (q2, .inl (c2, (8, .inr (.inl (fun _ => 0))))), (q3, .inl (c3, (8, .inl (fun _ => 0)))), (q4, .inl (c4, (8, .inl (fun _ => 0)))), (q5, .inl (c5, (8, .inl (fun _ => 0)))), (q6, .inl (c6, (64, .inr (.inl (fun _ => 0))))), (q7, .inl (c7, (64, .inr (.inl (fun _ => 0))))), (q8, .inl (c8, (64, .inr (.inl (fun _ => 0))))), (q9, .inl (c9, (64, .inl (fun _ => 0)))), (q10, .inl (c10, (64, .inl (fun _ => 0)))), (q11, .inl (c11, (480, .inl (fun _ => 0)))), (q12, .inl (c12, (480, .inl (fun _ => 0)))), (q13, .inl (c13, (960, .inl (fun _ => 0)))), (q14, .inl (c14, (15, .inl (fun _ => 0)))), (q15, .inl (c15, (64, .inl (fun _ => 0))))] H := hP
  have hD : va_D A [(h0, .inr (5, [.int 0, .int 0, .ref q1, .ref q2, .ref q3, .ref q4, .ref q5, .ref q6, .ref q7, .ref q8, .ref q9, .ref q10, .ref q11, .int 0, .ref q12, .int 0, .int 0, .ref q13, .ref q14, .ref q15, .int 0, .null, .int 0])), (q1, .inl (c1, (8, .inr (.inl (fun _ => 0))))), (q2, .inl (c2, (8, .inr (.inl (fun _ => 0))))), (q3, .inl (c3, (8, .inl (fun _ => 0)))), (q4, .inl (c4, (8, .inl (fun _ => 0)))), (q5, .inl (c5, (8, .inl (fun _ => 0)))), (q6, .inl (c6, (64, .inr (.inl (fun _ => 0))))), (q7, .inl (c7, (64, .inr (.inl (fun _ => 0))))), (q8, .inl (c8, (64, .inr (.inl (fun _ => 0))))), (q9, .inl (c9, (64, .inl (fun _ => 0)))), (q10, .inl (c10, (64, .inl (fun _ => 0)))), (q11, .inl (c11, (480, .inl (fun _ => 0)))), (q12, .inl (c12, (480, .inl (fun _ => 0)))), (q13, .inl (c13, (960, .inl (fun _ => 0)))), (q14, .inl (c14, (15, .inl (fun _ => 0)))), (q15, .inl (c15, (64, .inl (fun _ => 0))))] := hD
  refine lv_aload_n hx hb (by decide +kernel : decode prog_11_method_1_code 127 = .ok (.aload_n 0, 1)) rfl (lv_at hl 0 rfl) ?_
  refine lv_bipush (v := 14) hx hb (by decide +kernel : decode prog_11_method_1_code 128 = .ok (.bipush 14, 2)) (by decide) ?_
  refine va_newa (D := (dC, dI)) (cl := xCl) (atype := .int) (N' := 14) (a0 := (14, .inl (fun _ => 0))) hx hb (hts _ (tc2 tv_88)) rfl hK hP hD hS hA (fun _ => rfl) (by decide) (by decide) (by decide) (by decide : 16 ≤ 16) (by decide : 2373 ≤ 2373) (by decide +kernel : decode prog_11_method_1_code 130 = .ok (.newarray .int, 2)) (fun q16 c16 H hK hP hD hS => ?_)
  have hP : va_P (dC, dI) xCl [(h0, .inr (5, [.int 0, .int 0, .ref q1, .ref q2, .ref q3, .ref q4, .ref q5, .ref q6, .ref q7, .ref q8, .ref q9, .ref q10, .ref q11, .int 0, .ref q12, .int 0, .int 0, .ref q13, .ref q14, .ref q15, .int 0, .null, .int 0])), (q1, .inl (c1, (8, .inr (.inl (fun _ => 0))))), (q2, .inl (c2, (8, .inr (.inl (fun _ => 0))))), (q3, .inl (c3, (8, .inl (fun _ => 0)))), (q4, .inl (c4, (8, .inl (fun _ => 0)))), (q5, .inl (c5, (8, .inl (fun _ => 0)))), (q6, .inl (c6, (64, .inr (.inl (fun _ => 0))))), (q7, .inl (c7, (64, .inr (.inl (fun _ => 0))))), (q8, .inl (c8, (64, .inr (.inl (fun _ => 0))))), (q9, .inl (c9, (64, .inl (fun _ => 0)))), (q10, .inl (c10, (64, .inl (fun _ => 0)))), (q11, .inl (c11, (480, .inl (fun _ => 0)))), (q12, .inl (c12, (480, .inl (fun _ => 0)))), (q13, .inl (c13, (960, .inl (fun _ => 0)))), (q14, .inl (c14, (15, .inl (fun _ => 0)))), (q15, .inl (c15, (64, .inl (fun _ => 0)))), (q16, .inl (c16, (14, .inl (fun _ => 0))))] H := hP
  have hD : va_D A [(h0, .inr (5, [.int 0, .int 0, .ref q1, .ref q2, .ref q3, .ref q4, .ref q5, .ref q6, .ref q7, .ref q8, .ref q9, .ref q10, .ref q11, .int 0, .ref q12, .int 0, .int 0, .ref q13, .ref q14, .ref q15, .int 0, .null, .int 0])), (q1, .inl (c1, (8, .inr (.inl (fun _ => 0))))), (q2, .inl (c2, (8, .inr (.inl (fun _ => 0))))), (q3, .inl (c3, (8, .inl (fun _ => 0)))), (q4, .inl (c4, (8, .inl (fun _ => 0)))), (q5, .inl (c5, (8, .inl (fun _ => 0)))), (q6, .inl (c6, (64, .inr (.inl (fun _ => 0))))), (q7, .inl (c7, (64, .inr (.inl (fun _ => 0))))), (q8, .inl (c8, (64, .inr (.inl (fun _ => 0))))), (q9, .inl (c9, (64, .inl (fun _ => 0)))), (q10, .inl (c10, (64, .inl (fun _ => 0)))), (q11, .inl (c11, (480, .inl (fun _ => 0)))), (q12, .inl (c12, (480, .inl (fun _ => 0)))), (q13, .inl (c13, (960, .inl (fun _ => 0)))), (q14, .inl (c14, (15, .inl (fun _ => 0)))), (q15, .inl (c15, (64, .inl (fun _ => 0)))), (q16, .inl (c16, (14, .inl (fun _ => 0))))] := hD
  have hK : va_K (dC, dI) xCl [(c1, .long), (c2, .long), (c3, .int), (c4, .boolean), (c5, .int), (c6, .long), (c7, .long), (c8, .long), (c9, .boolean), (c10, .boolean), (c11, .int), (c12, .int), (c13, .int), (c14, .int), (c15, .int), (c16, .int)] s := hK
  refine W.widen (k := 16) (n := 2373) (by omega) (by omega) ?_
  refine va_putF (D := (dC, dI)) (ci := 5) (v := .ref q16) (ty := .array .int) (C := RM) (T := FM) (N := 23) hx hb hts tin2_M tM tM_ok nM hown hK hP hD hS 0 rfl rfl 21 (by decide) (hts _ (tc2 tv_787)) (fun _ h9 => h9) rfl hin rfl (by decide +kernel) rfl rfl (Nat.le_of_ble_eq_true rfl) (by decide +kernel : decode prog_11_method_1_code 132 = .ok (.putfield 57, 3)) (fun H locs hP hD hS => ?_)
  have hP : va_P (dC, dI) xCl [(h0, .inr (5, [.int 0, .int 0, .ref q1, .ref q2, .ref q3, .ref q4, .ref q5, .ref q6, .ref q7, .ref q8, .ref q9, .ref q10, .ref q11, .int 0, .ref q12, .int 0, .int 0, .ref q13, .ref q14, .ref q15, .int 0, .ref q16, .int 0])), (q1, .inl (c1, (8, .inr (.inl (fun _ => 0))))), (q2, .inl (c2, (8, .inr (.inl (fun _ => 0))))), (q3, .inl (c3, (8, .inl (fun _ => 0)))), (q4, .inl (c4, (8, .inl (fun _ => 0)))), (q5, .inl (c5, (8, .inl (fun _ => 0)))), (q6, .inl (c6, (64, .inr (.inl (fun _ => 0))))), (q7, .inl (c7, (64, .inr (.inl (fun _ => 0))))), (q8, .inl (c8, (64, .inr (.inl (fun _ => 0))))), (q9, .inl (c9, (64, .inl (fun _ => 0)))), (q10, .inl (c10, (64, .inl (fun _ => 0)))), (q11, .inl (c11, (480, .inl (fun _ => 0)))), (q12, .inl (c12, (480, .inl (fun _ => 0)))), (q13, .inl (c13, (960, .inl (fun _ => 0)))), (q14, .inl (c14, (15, .inl (fun _ => 0)))), (q15, .inl (c15, (64, .inl (fun _ => 0)))), (q16, .inl (c16, (14, .inl (fun _ => 0))))] H := hP
  have hD : va_D A [(h0, .inr (5, [.int 0, .int 0, .ref q1, .ref q2, .ref q3, .ref q4, .ref q5, .ref q6, .ref q7, .ref q8, .ref q9, .ref q10, .ref q11, .int 0, .ref q12, .int 0, .int 0, .ref q13, .ref q14, .ref q15, .int 0, .ref q16, .int 0])), (q1, .inl (c1, (8, .inr (.inl (fun _ => 0))))), (q2, .inl (c2, (8, .inr (.inl (fun _ => 0))))), (q3, .inl (c3, (8, .inl (fun _ => 0)))), (q4, .inl (c4, (8, .inl (fun _ => 0)))), (q5, .inl (c5, (8, .inl (fun _ => 0)))), (q6, .inl (c6, (64, .inr (.inl (fun _ => 0))))), (q7, .inl (c7, (64, .inr (.inl (fun _ => 0))))), (q8, .inl (c8, (64, .inr (.inl (fun _ => 0))))), (q9, .inl (c9, (64, .inl (fun _ => 0)))), (q10, .inl (c10, (64, .inl (fun _ => 0)))), (q11, .inl (c11, (480, .inl (fun _ => 0)))), (q12, .inl (c12, (480, .inl (fun _ => 0)))), (q13, .inl (c13, (960, .inl (fun _ => 0)))), (q14, .inl (c14, (15, .inl (fun _ => 0)))), (q15, .inl (c15, (64, .inl (fun _ => 0)))), (q16, .inl (c16, (14, .inl (fun _ => 0))))] := hD
  exact W.vret hx hb hr (fun t ht hW => ⟨⟨(), rfl, trivial, q1, c1, q2, c2, q3, c3, q4, c4, q5, c5, q6, c6, q7, c7, q8, c8, q9, c9, q10, c10, q11, c11, q12, c12, q13, c13, q14, c14, q15, c15, q16, c16, by rw [ht]; exact hP, va_K.moved hW.alike hK, hD⟩, hS.F ht⟩) hS.2.2 (by decide +kernel : decode prog_11_method_1_code 135 = .ok (.return_, 1))
end
