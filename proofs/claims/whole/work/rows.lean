section
-- AN ABSTRACT MACHINE over the kit's rows: cells are numbered, a reference is a cell's number; a method's body is a table of steps
abbrev xC : Type := (Nat × vp_A) ⊕ (Nat × List Value)
abbrev xH : Type := List xC
abbrev xL : Type := List (Option Value)
abbrev xF : Type := Nat × xL × List Value × xH × Nat
abbrev xR : Type := Option Value ⊕ Nat
abbrev xQ : Type := xR → xH → Nat → Prop
abbrev xOp : Type := xF → (xF → Prop) → xQ → Prop
abbrev xT : Type := List (Nat × xOp)
abbrev xP : Type := List Value → xH → xQ → Prop
def xlk : xT → Nat → Option xOp
  | [], _ => none
  | q :: t, pc => bif Nat.beq q.1 pc then some q.2 else xlk t pc
theorem xlk_mem : ∀ {tb : xT} {pc : Nat} {op : xOp}, xlk tb pc = some op → (pc, op) ∈ tb
  | [], _, _, h => by cases h
  | q :: t, pc, op, h => by
    unfold xlk at h
    cases hb : Nat.beq q.1 pc with
    | true =>
      rw [hb] at h
      have h1 : q.2 = op := by simpa using h
      have h2 : q.1 = pc := Nat.eq_of_beq_eq_true hb
      have : q = (pc, op) := by rw [← h1, ← h2]
      rw [this]
      exact List.mem_cons_self
    | false =>
      rw [hb] at h
      exact List.mem_cons_of_mem _ (xlk_mem h)
def xStep (tb : xT) (I : xF → Prop) (Q : xQ) (c : xF) : Prop := match xlk tb c.1 with
  | none => False
  | some op => op c I Q
/-- the least predicate that every step of the table carries on -/
def xG (tb : xT) (Q : xQ) (c : xF) : Prop := ∀ I : xF → Prop, (∀ (c' : xF) (J : xF → Prop), (∀ x, J x → I x) → xStep tb J Q c' → I c') → I c
theorem xG.step {tb : xT} {Q : xQ} {c : xF} (h : xStep tb (xG tb Q) Q c) : xG tb Q c := fun I hI => hI c _ (fun _ hx => hx I hI) h
/-- some steps at once, up to the cuts -/
def xgo (tb : xT) (Q : xQ) (cut : List Nat) : Nat → xF → Prop
  | 0, c => xG tb Q c
  | n + 1, c => bif cut.contains c.1 then xG tb Q c else xStep tb (xgo tb Q cut n) Q c
theorem xG.ofGo {tb : xT} {Q : xQ} {cut : List Nat} : ∀ (n : Nat) {c : xF}, xgo tb Q cut n c → xG tb Q c
  | 0, _, h => h
  | n + 1, c, h => by
    unfold xgo at h
    cases hb : cut.contains c.1 with
    | true => rw [hb] at h; exact h
    | false => rw [hb] at h; exact fun I hI => hI c _ (fun x hx => xG.ofGo n hx I hI) h
theorem xG.go {tb : xT} {Q : xQ} {c : xF} (cut : List Nat) (n : Nat) (h : xStep tb (xgo tb Q cut n) Q c) : xG tb Q c := fun I hI => hI c _ (fun x hx => xG.ofGo n hx I hI) h
theorem xG.mono {tb : xT} {Q : xQ} {c : xF} (h : xG tb Q c) : xG tb Q c := h
def xv (ρ : Nat → Nat) : Value → Value
  | .ref k => .ref (ρ k)
  | .int x => .int x
  | .long x => .long x
  | .float x => .float x
  | .double x => .double x
  | .null => .null
  | .retAddr x => .retAddr x
def xe (ρ : Nat → Nat) (cA : Nat → ClassId) : xC → va_E
  | .inl a => .inl (cA a.1, a.2)
  | .inr o => .inr (o.1, o.2.map (xv ρ))
def xw (ρ : Nat → Nat) (cA : Nat → ClassId) : Nat → xH → va_W
  | _, [] => []
  | i, c :: t => (ρ i, xe ρ cA c) :: xw ρ cA (i + 1) t
def xla (ρ : Nat → Nat) : Nat → xL → List (Nat × Value)
  | _, [] => []
  | i, none :: t => xla ρ (i + 1) t
  | i, some v :: t => (i, xv ρ v) :: xla ρ (i + 1) t
def xd : Option Value → Option Value
  | some v => bif Nat.beq v.category 2 then none else some v
  | none => none
def xset (i : Nat) (v : Value) : Nat → xL → xL
  | _, [] => []
  | j, o :: t => (bif Nat.beq j i then some v else bif Nat.beq (j + 1) i then xd o else o) :: xset i v (j + 1) t
def xset2 (i : Nat) (v : Value) : Nat → xL → xL
  | _, [] => []
  | j, o :: t => (bif Nat.beq j i then some v else bif Nat.beq j (i + 1) then none else bif Nat.beq (j + 1) i then xd o else o) :: xset2 i v (j + 1) t
def xcs (st : List Value) : Nat := (st.map fun v => v.category).sum
section XA
variable {ρ : Nat → Nat} {cA : Nat → ClassId}
theorem xv_cat (v : Value) : (xv ρ v).category = v.category := by cases v <;> rfl
theorem xcs_map (st : List Value) : ((st.map (xv ρ)).map fun v => v.category).sum = xcs st := by
  unfold xcs
  rw [List.map_map]
  congr 1
  exact List.map_congr_left fun v _ => xv_cat v
theorem xw_get : ∀ (h : xH) (i k : Nat), (xw ρ cA i h)[k]? = h[k]?.map (fun c => (ρ (i + k), xe ρ cA c))
  | [], i, k => by simp [xw]
  | c :: t, i, 0 => by simp [xw]
  | c :: t, i, k + 1 => by
    simp only [xw, List.getElem?_cons_succ]
    rw [xw_get t (i + 1) k, show i + 1 + k = i + (k + 1) by omega]
theorem xw_at {h : xH} {k : Nat} {c : xC} (e : h[k]? = some c) : (xw ρ cA 0 h)[k]? = some (ρ k, xe ρ cA c) := by
  rw [xw_get, e]; simp
theorem xw_set : ∀ (h : xH) (i k : Nat) (c : xC), (xw ρ cA i h).set k (ρ (i + k), xe ρ cA c) = xw ρ cA i (h.set k c)
  | [], i, k, c => by simp [xw]
  | d :: t, i, 0, c => by simp [xw]
  | d :: t, i, k + 1, c => by
    simp only [xw, List.set_cons_succ]
    rw [← xw_set t (i + 1) k c, show i + 1 + k = i + (k + 1) by omega]
theorem xw_set0 (h : xH) (k : Nat) (c : xC) : (xw ρ cA 0 h).set k (ρ k, xe ρ cA c) = xw ρ cA 0 (h.set k c) := by
  have := xw_set (ρ := ρ) (cA := cA) h 0 k c
  rwa [Nat.zero_add] at this
theorem xla_mem : ∀ (l : xL) (i : Nat) (q : Nat × Value), q ∈ xla ρ i l ↔ ∃ (k : Nat) (v : Value), l[k]? = some (some v) ∧ q = (i + k, xv ρ v)
  | [], i, q => by simp [xla]
  | none :: t, i, q => by
    simp only [xla]
    rw [xla_mem t (i + 1) q]
    constructor
    · rintro ⟨k, v, h1, h2⟩
      exact ⟨k + 1, v, by simpa using h1, by rw [h2, show i + 1 + k = i + (k + 1) by omega]⟩
    · rintro ⟨k, v, h1, h2⟩
      cases k with
      | zero => simp at h1
      | succ k => exact ⟨k, v, by simpa using h1, by rw [h2, show i + 1 + k = i + (k + 1) by omega]⟩
  | some w :: t, i, q => by
    simp only [xla, List.mem_cons]
    rw [xla_mem t (i + 1) q]
    constructor
    · rintro (h | ⟨k, v, h1, h2⟩)
      · exact ⟨0, w, by simp, by rw [h]; simp⟩
      · exact ⟨k + 1, v, by simpa using h1, by rw [h2, show i + 1 + k = i + (k + 1) by omega]⟩
    · rintro ⟨k, v, h1, h2⟩
      cases k with
      | zero =>
        have : w = v := by simpa using h1
        exact Or.inl (by rw [h2, this]; simp)
      | succ k => exact Or.inr ⟨k, v, by simpa using h1, by rw [h2, show i + 1 + k = i + (k + 1) by omega]⟩
theorem lv_subset {ls : Array Slot} {n : Nat} {a b : List (Nat × Value)} (h : lv_has ls n a) (hs : ∀ q ∈ b, q ∈ a) : lv_has ls n b := ⟨h.1, h.2.1, fun q hq => h.2.2 q (hs q hq)⟩
theorem xla_at {ls : Array Slot} {n : Nat} {l : xL} (h : lv_has ls n (xla ρ 0 l)) {i : Nat} {v : Value} (e : l[i]? = some (some v)) : ls[i]? = some (.val (xv ρ v)) :=
  h.2.2 (i, xv ρ v) ((xla_mem l 0 _).mpr ⟨i, v, e, by simp⟩)
theorem xset_get (i : Nat) (v : Value) : ∀ (l : xL) (j k : Nat), (xset i v j l)[k]? = l[k]?.map (fun o => bif Nat.beq (j + k) i then some v else bif Nat.beq (j + k + 1) i then xd o else o)
  | [], j, k => by simp [xset]
  | o :: t, j, 0 => by simp [xset]
  | o :: t, j, k + 1 => by
    simp only [xset, List.getElem?_cons_succ]
    rw [xset_get i v t (j + 1) k, show j + 1 + k = j + (k + 1) by omega]
theorem xset2_get (i : Nat) (v : Value) : ∀ (l : xL) (j k : Nat), (xset2 i v j l)[k]? = l[k]?.map (fun o => bif Nat.beq (j + k) i then some v else bif Nat.beq (j + k) (i + 1) then none else bif Nat.beq (j + k + 1) i then xd o else o)
  | [], j, k => by simp [xset2]
  | o :: t, j, 0 => by simp [xset2]
  | o :: t, j, k + 1 => by
    simp only [xset2, List.getElem?_cons_succ]
    rw [xset2_get i v t (j + 1) k, show j + 1 + k = j + (k + 1) by omega]
theorem xd_some {o : Option Value} {w : Value} (h : xd o = some w) : o = some w ∧ ¬ w.category = 2 := by
  cases o with
  | none => cases h
  | some u =>
    change (bif Nat.beq u.category 2 then none else some u) = some w at h
    cases hb : Nat.beq u.category 2 with
    | true => rw [hb] at h; cases h
    | false =>
      rw [hb] at h
      have hu : u = w := by simpa using h
      subst hu
      exact ⟨rfl, fun q => by rw [q] at hb; cases hb⟩
theorem beq_f {a b : Nat} (h : Nat.beq a b = false) : ¬ a = b := fun q => by subst q; rw [Nat.beq_refl] at h; cases h
theorem xset_lv {ls : Array Slot} {n : Nat} {l : xL} {i : Nat} {v : Value} (h : lv_has ls n ((i, xv ρ v) :: (xla ρ 0 l).filter (fun q => !(q.1 == i) && !(q.1 + 1 == i && q.2.category == 2)))) : lv_has ls n (xla ρ 0 (xset i v 0 l)) := by
  refine lv_subset h fun q hq => ?_
  obtain ⟨k, w, h1, rfl⟩ := (xla_mem _ 0 q).mp hq
  rw [xset_get] at h1
  cases hlk : l[k]? with
  | none => rw [hlk] at h1; cases h1
  | some o =>
    rw [hlk] at h1
    simp only [Option.map_some, Option.some.injEq, Nat.zero_add] at h1
    cases hb : Nat.beq k i with
    | true =>
      rw [hb] at h1
      have e1 : v = w := by simpa using h1
      have e2 : k = i := Nat.eq_of_beq_eq_true hb
      subst e1; subst e2
      simp
    | false =>
      rw [hb] at h1
      have hne : ¬ k = i := beq_f hb
      refine List.mem_cons_of_mem _ (List.mem_filter.mpr ?_)
      cases hc : Nat.beq (k + 1) i with
      | true =>
        rw [hc] at h1
        obtain ⟨rfl, hcat⟩ := xd_some (by simpa using h1)
        refine ⟨(xla_mem _ 0 _).mpr ⟨k, w, hlk, rfl⟩, ?_⟩
        simp [hne, xv_cat, hcat]
      | false =>
        rw [hc] at h1
        have e1 : o = some w := by simpa using h1
        subst e1
        refine ⟨(xla_mem _ 0 _).mpr ⟨k, w, hlk, rfl⟩, ?_⟩
        simp [hne, beq_f hc]
theorem xset2_lv {ls : Array Slot} {n : Nat} {l : xL} {i : Nat} {v : Value} (h : lv_has ls n ((i, xv ρ v) :: (xla ρ 0 l).filter (fun q => !(q.1 == i) && (!(q.1 == i + 1) && !(q.1 + 1 == i && q.2.category == 2))))) : lv_has ls n (xla ρ 0 (xset2 i v 0 l)) := by
  refine lv_subset h fun q hq => ?_
  obtain ⟨k, w, h1, rfl⟩ := (xla_mem _ 0 q).mp hq
  rw [xset2_get] at h1
  cases hlk : l[k]? with
  | none => rw [hlk] at h1; cases h1
  | some o =>
    rw [hlk] at h1
    simp only [Option.map_some, Option.some.injEq, Nat.zero_add] at h1
    cases hb : Nat.beq k i with
    | true =>
      rw [hb] at h1
      have e1 : v = w := by simpa using h1
      have e2 : k = i := Nat.eq_of_beq_eq_true hb
      subst e1; subst e2
      simp
    | false =>
      rw [hb] at h1
      have hne : ¬ k = i := beq_f hb
      refine List.mem_cons_of_mem _ (List.mem_filter.mpr ?_)
      cases hb2 : Nat.beq k (i + 1) with
      | true => rw [hb2] at h1; cases h1
      | false =>
        rw [hb2] at h1
        have hne2 : ¬ k = i + 1 := beq_f hb2
        cases hc : Nat.beq (k + 1) i with
        | true =>
          rw [hc] at h1
          obtain ⟨rfl, hcat⟩ := xd_some (by simpa using h1)
          refine ⟨(xla_mem _ 0 _).mpr ⟨k, w, hlk, rfl⟩, ?_⟩
          simp [hne, hne2, xv_cat, hcat]
        | false =>
          rw [hc] at h1
          have e1 : o = some w := by simpa using h1
          subst e1
          refine ⟨(xla_mem _ 0 _).mpr ⟨k, w, hlk, rfl⟩, ?_⟩
          simp [hne, hne2, beq_f hc]
end XA
def xty (cA : Nat → ClassId) : List (ClassId × FieldType) := [(cA 0, .int), (cA 1, .long), (cA 2, .boolean)]
/-- the names of what is thrown -/
def xEx : Nat → String
  | 0 => "java/lang/IllegalArgumentException"
  | 1 => "java/lang/IndexOutOfBoundsException"
  | 2 => "java/lang/IllegalStateException"
  | _ => "java/util/NoSuchElementException"
def xO (ρ : Nat → Nat) (r : xR) (o : Outcome) (s t : State) : Prop := match r with
  | .inl none => o = .returned none
  | .inl (some v) => o = .returned (some (xv ρ v))
  | .inr X => ∃ (a : Nat) (cell : Cell), o = .threw a ∧ t.heap[a]? = some cell ∧ (∀ k, cell.vm ≠ .statics k) ∧ s.vm.findClass (xEx X) = some cell.cls ∧ ∃ k, s.vm.classes[cell.cls]? = some k
def xEnd (k0 : Nat × Nat) (cl : List vw_C) (D : va_G) (cA : Nat → ClassId) (ρ : Nat → Nat) (A : Nat → Prop) (Q : xQ) (s : State) (o : Outcome) (t : State) : Prop :=
  ∃ (r : xR) (h : xH) (n : Nat), Q r h n ∧ xO ρ r o s t ∧ va_P D cl (xw ρ cA 0 h) t.heap ∧ va_D A (xw ρ cA 0 h) ∧ va_F A s t ∧ s.WarmedH t.vm ∧ ∃ L, s.sameButNew ({ t with vm := s.vm } : State) L (k0.1 + n) (k0.2 + 6 * n) ∧ ∀ q ∈ L, A q.base
def xMQ (k0 : Nat × Nat) (cl : List vw_C) (D : va_G) (cA : Nat → ClassId) (ρ : Nat → Nat) (A : Nat → Prop) (Q : xQ) (s : State) (below : List Frame) : State → Prop := fun t => ∃ o, t.status = .running ∧ Ended t below o ∧ xEnd k0 cl D cA ρ A Q s o t
/-- the two statics of Throwable that a throw reads -/
def xNC : List Cond := [.not (.castable "java/lang/IllegalArgumentException" "java/lang/IndexOutOfBoundsException"), .not (.castable "java/lang/IllegalArgumentException" "java/lang/IllegalStateException"), .not (.castable "java/lang/IllegalArgumentException" "java/util/NoSuchElementException"), .not (.castable "java/lang/IndexOutOfBoundsException" "java/lang/IllegalArgumentException"), .not (.castable "java/lang/IndexOutOfBoundsException" "java/lang/IllegalStateException"), .not (.castable "java/lang/IndexOutOfBoundsException" "java/util/NoSuchElementException"), .not (.castable "java/lang/IllegalStateException" "java/lang/IllegalArgumentException"), .not (.castable "java/lang/IllegalStateException" "java/lang/IndexOutOfBoundsException"), .not (.castable "java/lang/IllegalStateException" "java/util/NoSuchElementException"), .not (.castable "java/util/NoSuchElementException" "java/lang/IllegalArgumentException"), .not (.castable "java/util/NoSuchElementException" "java/lang/IndexOutOfBoundsException"), .not (.castable "java/util/NoSuchElementException" "java/lang/IllegalStateException")]
def xHs (U : State) : Prop := (∀ w ∈ xNC, w.before #[] U = true) ∧ ((Cond.laysStatic "java/lang/Throwable" "UNASSIGNED_STACK" "[Ljava/lang/StackTraceElement;").before #[] U = true ∧ (Cond.isRef (.static "java/lang/Throwable" "UNASSIGNED_STACK" "[Ljava/lang/StackTraceElement;")).before #[] U = true) ∧ (Cond.laysStatic "java/lang/Throwable" "SUPPRESSED_SENTINEL" "Ljava/util/List;").before #[] U = true ∧ (Cond.isRef (.static "java/lang/Throwable" "SUPPRESSED_SENTINEL" "Ljava/util/List;")).before #[] U = true
theorem ls_kept {C n d : String} {s U : State} {args args' : Array Value} (hvm : s.vm.Alike U.vm) (hk : ∀ (a : Nat) (cell : Cell), s.heap[a]? = some cell → cell.vm.isStatics = true → U.heap[a]? = some cell) (h : (Cond.laysStatic C n d).before args s = true) :
    (Cond.laysStatic C n d).before args' U = true ∧ ((Cond.isRef (.static C n d)).before args s = true → (Cond.isRef (.static C n d)).before args' U = true) := by
  obtain ⟨c, k, i, f, a, cell, hc, hi, hst, hsta, hcell, hiss, hcls, hlt, hty⟩ := Cond.laysStatic_spec h
  obtain ⟨k', hi', he⟩ := State.fieldFound?_setVm hvm hi
  have hi2 : U.fieldFound? C n d = some (c, k', i, f) := hi'
  have hc' : U.vm.findClass C = some c := by rw [hvm.findClass]; exact hc
  have hcell' := hk a cell hcell hiss
  have hsta' : k'.statics = some a := by rw [he]; exact hsta
  have hty' : k'.staticTypes[f.slot]? = some f.type := by rw [he]; exact hty
  refine ⟨by simp [Cond.before, Cond.holds, Cond.value, hc', hi2, hst, hsta', hcell', hiss, hcls, hlt, hty'], fun hr => ?_⟩
  have e1 : (Term.static C n d).eval args s none [] s = cell.slots[f.slot]? := by simp [Term.eval, State.fieldNamed?, hi, hst, hsta, hcell, hiss]
  have e2 : (Term.static C n d).eval args' U none [] U = cell.slots[f.slot]? := by simp [Term.eval, State.fieldNamed?, hi2, hst, hsta', hcell', hiss]
  simp only [Cond.before, Cond.holds, Cond.value] at hr ⊢
  rw [e2]
  rw [e1] at hr
  exact hr
theorem xNC_is : ∀ w ∈ xNC, ∃ a b, w = Cond.not (.castable a b) := by
  intro w hw
  simp only [xNC, List.mem_cons, List.not_mem_nil, or_false] at hw
  rcases hw with rfl | rfl | rfl | rfl | rfl | rfl | rfl | rfl | rfl | rfl | rfl | rfl <;> exact ⟨_, _, rfl⟩
theorem xNC_kept {s U : State} {args args' : Array Value} (hvm : s.vm.Alike U.vm) : ∀ w ∈ xNC, w.before args s = true → w.before args' U = true := by
  intro w hw h
  obtain ⟨a, b, rfl⟩ := xNC_is w hw
  have h1 := Cond.castAtom_setVm (args := args) hvm (.not (.castable a b)) rfl h
  simp only [Cond.before, Cond.holds, Cond.value, State.vm_setVm] at h1 ⊢
  exact h1
theorem xHs.kept {s U : State} (hvm : s.vm.Alike U.vm) (hk : ∀ (a : Nat) (cell : Cell), s.heap[a]? = some cell → cell.vm.isStatics = true → U.heap[a]? = some cell) (h : xHs s) : xHs U :=
  ⟨fun w hw => xNC_kept hvm w hw (h.1 w hw), ⟨(ls_kept hvm hk h.2.1.1).1, (ls_kept hvm hk h.2.1.1).2 h.2.1.2⟩, (ls_kept hvm hk h.2.2.1).1, (ls_kept hvm hk h.2.2.1).2 h.2.2.2⟩
theorem x_stat {A : Nat → Prop} {H0 H : Heap} {locs : List Loc} (hS : va_S A H0 H locs) (hns : ∀ q, A q → ∀ cell : Cell, H0[q]? = some cell → cell.vm.isStatics = false) : ∀ (a : Nat) (cell : Cell), H0[a]? = some cell → cell.vm.isStatics = true → H[a]? = some cell := fun a cell h1 h2 => by
  rw [hS.2.1 a (Array.getElem?_eq_some_iff.mp h1).1 (fun z => by rw [hns a z cell h1] at h2; cases h2)]
  exact h1
def xLo (l : Launch) : Prop := ∀ e, l.admits e → e.platform.stackTraces = false
def xCx (Ex : Code → State → (Nat → Nat) → (Nat → Prop) → Prop) (cl : List vw_C) (own : String) (Ts : List Cond) (cc : ByteArray) (nL : Nat) (ret : Option FieldType) (p : Program) (l : Launch) (s : State) (m : MethodId) (args : Array Value) (meth : Method) (c : Code) (D : va_G) (cA : Nat → ClassId) (ρ : Nat → Nat) (A : Nat → Prop) : Prop :=
  p.tables.exec = Jvm.exec ∧ c.code = cc ∧ c.maxLocals = nL ∧ meth.sig.returnType = ret ∧ meth.locks = false ∧ s.vm.findClass own = some m.cls ∧ (∀ w ∈ Ts, w.before args s = true) ∧ va_K D cl (xty cA) s ∧ (∀ q, s.heap.size ≤ q → A q) ∧ Ex c s ρ A ∧ xLo l ∧ (∀ q, A q → ∀ cell : Cell, s.heap[q]? = some cell → cell.vm.isStatics = false) ∧ xHs s
def xWW (k0 : Nat × Nat) (cl : List vw_C) (R : Room) (nL : Nat) (p : Program) (l : Launch) (e : Env) (s : State) (m : MethodId) (args : Array Value) (below : List Frame) (meth : Method) (c : Code) (D : va_G) (cA : Nat → ClassId) (ρ : Nat → Nat) (A : Nat → Prop) (Q : xQ) (x : xF) : Prop :=
  ∀ (H : Heap) (locs : List Loc) (ls : Array Slot), lv_has ls nL (xla ρ 0 x.2.1) → va_P D cl (xw ρ cA 0 x.2.2.2.1) H → va_D A (xw ρ cA 0 x.2.2.2.1) → va_S A s.heap H locs →
    W p l e R s m args below meth c H locs (k0.1 + x.2.2.2.2) (k0.2 + 6 * x.2.2.2.2) (xMQ k0 cl D cA ρ A Q s below) (F0 m x.1 ls (x.2.2.1.map (xv ρ)))
def x0 : Code → State → (Nat → Nat) → (Nat → Prop) → Prop := fun c _ _ _ => c.exceptionTable.isEmpty = true
theorem x0_e : ∀ c s ρ A, x0 c s ρ A → c.exceptionTable.isEmpty = true := fun _ _ _ _ h => h
def xSd (k0 : Nat × Nat) (Ex : Code → State → (Nat → Nat) → (Nat → Prop) → Prop) (cl : List vw_C) (own : String) (Ts : List Cond) (cc : ByteArray) (nL : Nat) (ret : Option FieldType) (R : Room) (q : Nat × xOp) : Prop :=
  ∀ (p : Program) (l : Launch) (e : Env) (s : State) (m : MethodId) (args : Array Value) (below : List Frame) (meth : Method) (c : Code) (D : va_G) (cA : Nat → ClassId) (ρ : Nat → Nat) (A : Nat → Prop), xCx Ex cl own Ts cc nL ret p l s m args meth c D cA ρ A →
    ∀ (Q : xQ) (J : xF → Prop) (x : xF), x.1 = q.1 → (∀ y, J y → xWW k0 cl R nL p l e s m args below meth c D cA ρ A Q y) → q.2 x J Q → xWW k0 cl R nL p l e s m args below meth c D cA ρ A Q x
theorem xSd.all {k0 : Nat × Nat} {Ex : Code → State → (Nat → Nat) → (Nat → Prop) → Prop} {cl : List vw_C} {own : String} {Ts : List Cond} {cc : ByteArray} {nL : Nat} {ret : Option FieldType} {R : Room} {tb : xT} (hv : ∀ q ∈ tb, xSd k0 Ex cl own Ts cc nL ret R q)
    {p : Program} {l : Launch} {e : Env} {s : State} {m : MethodId} {args : Array Value} {below : List Frame} {meth : Method} {c : Code} {D : va_G} {cA : Nat → ClassId} {ρ : Nat → Nat} {A : Nat → Prop} (X : xCx Ex cl own Ts cc nL ret p l s m args meth c D cA ρ A)
    {Q : xQ} {x : xF} (h : xG tb Q x) : xWW k0 cl R nL p l e s m args below meth c D cA ρ A Q x := by
  refine h _ fun c' J hJ hs => ?_
  unfold xStep at hs
  split at hs
  · exact hs.elim
  · rename_i op hop
    exact hv _ (xlk_mem hop) p l e s m args below meth c D cA ρ A X Q J c' rfl hJ hs
theorem xval_nil {k0 : Nat × Nat} {Ex : Code → State → (Nat → Nat) → (Nat → Prop) → Prop} {cl : List vw_C} {own : String} {Ts : List Cond} {cc : ByteArray} {nL : Nat} {ret : Option FieldType} {R : Room} : ∀ q ∈ ([] : xT), xSd k0 Ex cl own Ts cc nL ret R q := fun q h => by cases h
theorem xval {k0 : Nat × Nat} {Ex : Code → State → (Nat → Nat) → (Nat → Prop) → Prop} {cl : List vw_C} {own : String} {Ts : List Cond} {cc : ByteArray} {nL : Nat} {ret : Option FieldType} {R : Room} {pc : Nat} {op : xOp} {t : xT} (h : xSd k0 Ex cl own Ts cc nL ret R (pc, op)) (ht : ∀ q ∈ t, xSd k0 Ex cl own Ts cc nL ret R q) : ∀ q ∈ (pc, op) :: t, xSd k0 Ex cl own Ts cc nL ret R q := fun q hq => by
  rcases List.mem_cons.mp hq with rfl | hq
  · exact h
  · exact ht q hq

section XS
variable {k0 : Nat × Nat} {Ex : Code → State → (Nat → Nat) → (Nat → Prop) → Prop} {cl : List vw_C} {own : String} {Ts : List Cond} {cc : ByteArray} {nL : Nat} {ret : Option FieldType} {R : Room} {pc : Nat}

def o_i (v : Int32) (len : Nat) : xOp := fun x k _ => k (x.1 + len, x.2.1, .int v :: x.2.2.1, x.2.2.2.1, x.2.2.2.2)
def o_l (v : Int64) (len : Nat) : xOp := fun x k _ => k (x.1 + len, x.2.1, .long v :: x.2.2.1, x.2.2.2.1, x.2.2.2.2)
theorem s_iconst {z : Int} {v : Int32} (hd : decode cc pc = .ok (.iconst z, 1)) (hv : Int32.ofInt z = v) : xSd k0 Ex cl own Ts cc nL ret R (pc, o_i v 1) := by
  intro p l e s m args below meth c D cA ρ A X Q J x hpc hJ ho H locs ls hl hP hD hS
  obtain ⟨pc', L, st, h, n⟩ := x
  obtain rfl : pc' = pc := hpc
  exact lv_iconst X.1 X.2.1 hd hv (hJ _ ho H locs ls hl hP hD hS)
theorem s_bipush {z : Int} {v : Int32} (hd : decode cc pc = .ok (.bipush z, 2)) (hv : (Int8.ofInt z).toInt32 = v) : xSd k0 Ex cl own Ts cc nL ret R (pc, o_i v 2) := by
  intro p l e s m args below meth c D cA ρ A X Q J x hpc hJ ho H locs ls hl hP hD hS
  obtain ⟨pc', L, st, h, n⟩ := x
  obtain rfl : pc' = pc := hpc
  exact lv_bipush X.1 X.2.1 hd hv (hJ _ ho H locs ls hl hP hD hS)
theorem s_sipush {z : Int} {v : Int32} (hd : decode cc pc = .ok (.sipush z, 3)) (hv : (Int16.ofInt z).toInt32 = v) : xSd k0 Ex cl own Ts cc nL ret R (pc, o_i v 3) := by
  intro p l e s m args below meth c D cA ρ A X Q J x hpc hJ ho H locs ls hl hP hD hS
  obtain ⟨pc', L, st, h, n⟩ := x
  obtain rfl : pc' = pc := hpc
  exact lv_sipush X.1 X.2.1 hd hv (hJ _ ho H locs ls hl hP hD hS)
theorem s_lconst {z : Fin 2} {v : Int64} (hd : decode cc pc = .ok (.lconst z, 1)) (hv : Int64.ofNat (z : Nat) = v) : xSd k0 Ex cl own Ts cc nL ret R (pc, o_l v 1) := by
  intro p l e s m args below meth c D cA ρ A X Q J x hpc hJ ho H locs ls hl hP hD hS
  obtain ⟨pc', L, st, h, n⟩ := x
  obtain rfl : pc' = pc := hpc
  exact lv_lconst X.1 X.2.1 hd hv (hJ _ ho H locs ls hl hP hD hS)
theorem s_ldc {i : Nat} {v : Int32} (hd : decode cc pc = .ok (.ldc i, 2)) (hw : Jvm.Cond.constant own i v ∈ Ts) : xSd k0 Ex cl own Ts cc nL ret R (pc, o_i v 2) := by
  intro p l e s m args below meth c D cA ρ A X Q J x hpc hJ ho H locs ls hl hP hD hS
  obtain ⟨pc', L, st, h, n⟩ := x
  obtain rfl : pc' = pc := hpc
  exact lv_ldc X.1 X.2.1 X.2.2.2.2.2.1 (X.2.2.2.2.2.2.1 _ hw) hd (hJ _ ho H locs ls hl hP hD hS)
theorem s_ldc2 {i : Nat} {v : Int64} (hd : decode cc pc = .ok (.ldc2_w i, 3)) (hw : Jvm.Cond.constantLong own i v ∈ Ts) : xSd k0 Ex cl own Ts cc nL ret R (pc, o_l v 3) := by
  intro p l e s m args below meth c D cA ρ A X Q J x hpc hJ ho H locs ls hl hP hD hS
  obtain ⟨pc', L, st, h, n⟩ := x
  obtain rfl : pc' = pc := hpc
  exact lv_ldc2 X.1 X.2.1 X.2.2.2.2.2.1 (X.2.2.2.2.2.2.1 _ hw) hd (hJ _ ho H locs ls hl hP hD hS)
def o_iload (i len : Nat) : xOp := fun x k _ => match x.2.1[i]? with
  | some (some (.int v)) => k (x.1 + len, x.2.1, .int v :: x.2.2.1, x.2.2.2.1, x.2.2.2.2)
  | _ => False
theorem s_iload_n {f : Fin 4} {i : Nat} (hd : decode cc pc = .ok (.iload_n f, 1)) (hi : (f : Nat) = i) : xSd k0 Ex cl own Ts cc nL ret R (pc, o_iload i 1) := by
  intro p l e s m args below meth c D cA ρ A X Q J x hpc hJ ho H locs ls hl hP hD hS
  obtain ⟨pc', L, st, h, n⟩ := x
  obtain rfl : pc' = pc := hpc
  dsimp only [o_iload] at ho
  split at ho
  · rename_i v hv
    exact lv_iload_n X.1 X.2.1 hd hi (xla_at hl hv) (hJ _ ho H locs ls hl hP hD hS)
  · exact ho.elim
theorem s_iload {i : Nat} (hd : decode cc pc = .ok (.iload i, 2)) : xSd k0 Ex cl own Ts cc nL ret R (pc, o_iload i 2) := by
  intro p l e s m args below meth c D cA ρ A X Q J x hpc hJ ho H locs ls hl hP hD hS
  obtain ⟨pc', L, st, h, n⟩ := x
  obtain rfl : pc' = pc := hpc
  dsimp only [o_iload] at ho
  split at ho
  · rename_i v hv
    exact lv_iload X.1 X.2.1 hd (xla_at hl hv) (hJ _ ho H locs ls hl hP hD hS)
  · exact ho.elim
def o_lload (i len : Nat) : xOp := fun x k _ => match x.2.1[i]? with
  | some (some (.long v)) => k (x.1 + len, x.2.1, .long v :: x.2.2.1, x.2.2.2.1, x.2.2.2.2)
  | _ => False
theorem s_lload_n {f : Fin 4} {i : Nat} (hd : decode cc pc = .ok (.lload_n f, 1)) (hi : (f : Nat) = i) : xSd k0 Ex cl own Ts cc nL ret R (pc, o_lload i 1) := by
  intro p l e s m args below meth c D cA ρ A X Q J x hpc hJ ho H locs ls hl hP hD hS
  obtain ⟨pc', L, st, h, n⟩ := x
  obtain rfl : pc' = pc := hpc
  dsimp only [o_lload] at ho
  split at ho
  · rename_i v hv
    exact lv_lload_n X.1 X.2.1 hd hi (xla_at hl hv) (hJ _ ho H locs ls hl hP hD hS)
  · exact ho.elim
theorem s_lload {i : Nat} (hd : decode cc pc = .ok (.lload i, 2)) : xSd k0 Ex cl own Ts cc nL ret R (pc, o_lload i 2) := by
  intro p l e s m args below meth c D cA ρ A X Q J x hpc hJ ho H locs ls hl hP hD hS
  obtain ⟨pc', L, st, h, n⟩ := x
  obtain rfl : pc' = pc := hpc
  dsimp only [o_lload] at ho
  split at ho
  · rename_i v hv
    exact lv_lload X.1 X.2.1 hd (xla_at hl hv) (hJ _ ho H locs ls hl hP hD hS)
  · exact ho.elim
def o_aload (i len : Nat) : xOp := fun x k _ => match x.2.1[i]? with
  | some (some (.ref v)) => k (x.1 + len, x.2.1, .ref v :: x.2.2.1, x.2.2.2.1, x.2.2.2.2)
  | _ => False
theorem s_aload_n {f : Fin 4} {i : Nat} (hd : decode cc pc = .ok (.aload_n f, 1)) (hi : (f : Nat) = i) : xSd k0 Ex cl own Ts cc nL ret R (pc, o_aload i 1) := by
  intro p l e s m args below meth c D cA ρ A X Q J x hpc hJ ho H locs ls hl hP hD hS
  obtain ⟨pc', L, st, h, n⟩ := x
  obtain rfl : pc' = pc := hpc
  dsimp only [o_aload] at ho
  split at ho
  · rename_i v hv
    exact lv_aload_n X.1 X.2.1 hd hi (xla_at hl hv) (hJ _ ho H locs ls hl hP hD hS)
  · exact ho.elim
theorem s_aload {i : Nat} (hd : decode cc pc = .ok (.aload i, 2)) : xSd k0 Ex cl own Ts cc nL ret R (pc, o_aload i 2) := by
  intro p l e s m args below meth c D cA ρ A X Q J x hpc hJ ho H locs ls hl hP hD hS
  obtain ⟨pc', L, st, h, n⟩ := x
  obtain rfl : pc' = pc := hpc
  dsimp only [o_aload] at ho
  split at ho
  · rename_i v hv
    exact lv_aload X.1 X.2.1 hd (xla_at hl hv) (hJ _ ho H locs ls hl hP hD hS)
  · exact ho.elim
def o_istore (i len : Nat) : xOp := fun x k _ => match x.2.2.1 with
  | .int v :: r => k (x.1 + len, xset i (.int v) 0 x.2.1, r, x.2.2.2.1, x.2.2.2.2)
  | _ => False
theorem s_istore_n {f : Fin 4} {i : Nat} (hd : decode cc pc = .ok (.istore_n f, 1)) (hi : (f : Nat) = i) (hn : i < nL) : xSd k0 Ex cl own Ts cc nL ret R (pc, o_istore i 1) := by
  intro p l e s m args below meth c D cA ρ A X Q J x hpc hJ ho H locs ls hl hP hD hS
  obtain ⟨pc', L, st, h, n⟩ := x
  obtain rfl : pc' = pc := hpc
  dsimp only [o_istore] at ho
  split at ho
  · rename_i v r
    exact lv_istore_n X.1 X.2.1 hd hi hl hn rfl (fun ls' hl' => hJ _ ho H locs ls' (xset_lv (v := .int v) hl') hP hD hS)
  · exact ho.elim
theorem s_istore {i : Nat} (hd : decode cc pc = .ok (.istore i, 2)) (hn : i < nL) : xSd k0 Ex cl own Ts cc nL ret R (pc, o_istore i 2) := by
  intro p l e s m args below meth c D cA ρ A X Q J x hpc hJ ho H locs ls hl hP hD hS
  obtain ⟨pc', L, st, h, n⟩ := x
  obtain rfl : pc' = pc := hpc
  dsimp only [o_istore] at ho
  split at ho
  · rename_i v r
    exact lv_istore X.1 X.2.1 hd hl hn rfl (fun ls' hl' => hJ _ ho H locs ls' (xset_lv (v := .int v) hl') hP hD hS)
  · exact ho.elim
def o_astore (i len : Nat) : xOp := fun x k _ => match x.2.2.1 with
  | .ref v :: r => k (x.1 + len, xset i (.ref v) 0 x.2.1, r, x.2.2.2.1, x.2.2.2.2)
  | _ => False
theorem s_astore_n {f : Fin 4} {i : Nat} (hd : decode cc pc = .ok (.astore_n f, 1)) (hi : (f : Nat) = i) (hn : i < nL) : xSd k0 Ex cl own Ts cc nL ret R (pc, o_astore i 1) := by
  intro p l e s m args below meth c D cA ρ A X Q J x hpc hJ ho H locs ls hl hP hD hS
  obtain ⟨pc', L, st, h, n⟩ := x
  obtain rfl : pc' = pc := hpc
  dsimp only [o_astore] at ho
  split at ho
  · rename_i v r
    exact lv_astore_n X.1 X.2.1 hd hi hl hn rfl (fun ls' hl' => hJ _ ho H locs ls' (xset_lv (v := .ref v) hl') hP hD hS)
  · exact ho.elim
theorem s_astore {i : Nat} (hd : decode cc pc = .ok (.astore i, 2)) (hn : i < nL) : xSd k0 Ex cl own Ts cc nL ret R (pc, o_astore i 2) := by
  intro p l e s m args below meth c D cA ρ A X Q J x hpc hJ ho H locs ls hl hP hD hS
  obtain ⟨pc', L, st, h, n⟩ := x
  obtain rfl : pc' = pc := hpc
  dsimp only [o_astore] at ho
  split at ho
  · rename_i v r
    exact lv_astore X.1 X.2.1 hd hl hn rfl (fun ls' hl' => hJ _ ho H locs ls' (xset_lv (v := .ref v) hl') hP hD hS)
  · exact ho.elim
def o_lstore (i len : Nat) : xOp := fun x k _ => match x.2.2.1 with
  | .long v :: r => k (x.1 + len, xset2 i (.long v) 0 x.2.1, r, x.2.2.2.1, x.2.2.2.2)
  | _ => False
theorem s_lstore_n {f : Fin 4} {i : Nat} (hd : decode cc pc = .ok (.lstore_n f, 1)) (hi : (f : Nat) = i) (hn : i + 1 < nL) : xSd k0 Ex cl own Ts cc nL ret R (pc, o_lstore i 1) := by
  intro p l e s m args below meth c D cA ρ A X Q J x hpc hJ ho H locs ls hl hP hD hS
  obtain ⟨pc', L, st, h, n⟩ := x
  obtain rfl : pc' = pc := hpc
  dsimp only [o_lstore] at ho
  split at ho
  · rename_i v r
    exact lv_lstore_n X.1 X.2.1 hd hi hl hn rfl (fun ls' hl' => hJ _ ho H locs ls' (xset2_lv (v := .long v) hl') hP hD hS)
  · exact ho.elim
theorem s_lstore {i : Nat} (hd : decode cc pc = .ok (.lstore i, 2)) (hn : i + 1 < nL) : xSd k0 Ex cl own Ts cc nL ret R (pc, o_lstore i 2) := by
  intro p l e s m args below meth c D cA ρ A X Q J x hpc hJ ho H locs ls hl hP hD hS
  obtain ⟨pc', L, st, h, n⟩ := x
  obtain rfl : pc' = pc := hpc
  dsimp only [o_lstore] at ho
  split at ho
  · rename_i v r
    exact lv_lstore X.1 X.2.1 hd hl hn rfl (fun ls' hl' => hJ _ ho H locs ls' (xset2_lv (v := .long v) hl') hP hD hS)
  · exact ho.elim
def o_iinc (i : Nat) (z : Int32) : xOp := fun x k _ => match x.2.1[i]? with
  | some (some (.int v)) => k (x.1 + 3, xset i (.int (v + z)) 0 x.2.1, x.2.2.1, x.2.2.2.1, x.2.2.2.2)
  | _ => False
theorem s_iinc {i : Nat} {z : Int} {w : Int32} (hd : decode cc pc = .ok (.iinc i z, 3)) (hw : Int32.ofInt z = w) (hn : i < nL) : xSd k0 Ex cl own Ts cc nL ret R (pc, o_iinc i w) := by
  intro p l e s m args below meth c D cA ρ A X Q J x hpc hJ ho H locs ls hl hP hD hS
  obtain ⟨pc', L, st, h, n⟩ := x
  obtain rfl : pc' = pc := hpc
  subst hw
  dsimp only [o_iinc] at ho
  split at ho
  · rename_i v hv
    obtain ⟨j, hj⟩ := List.getElem?_of_mem ((xla_mem (ρ := ρ) L 0 (i, .int v)).mpr ⟨i, .int v, hv, by simp [xv]⟩)
    exact lv_iinc X.1 X.2.1 hd hl hj rfl hn rfl (fun ls' hl' => hJ _ ho H locs ls' (xset_lv (v := .int _) hl') hP hD hS)
  · exact ho.elim
def o_ii (f : Int32 → Int32 → Int32) : xOp := fun x k _ => match x.2.2.1 with
  | .int b :: .int a :: r => k (x.1 + 1, x.2.1, .int (f a b) :: r, x.2.2.2.1, x.2.2.2.2)
  | _ => False
def o_ll (f : Int64 → Int64 → Int64) : xOp := fun x k _ => match x.2.2.1 with
  | .long b :: .long a :: r => k (x.1 + 1, x.2.1, .long (f a b) :: r, x.2.2.2.1, x.2.2.2.2)
  | _ => False
theorem s_iadd (hd : decode cc pc = .ok (.iadd, 1)) : xSd k0 Ex cl own Ts cc nL ret R (pc, o_ii (fun a b => a + b)) := by
  intro p l e s m args below meth c D cA ρ A X Q J x hpc hJ ho H locs ls hl hP hD hS
  obtain ⟨pc', L, st, h, n⟩ := x
  obtain rfl : pc' = pc := hpc
  dsimp only [o_ii] at ho
  split at ho
  · rename_i b a r
    exact lv_iadd X.1 X.2.1 hd (hJ _ ho H locs ls hl hP hD hS)
  · exact ho.elim
theorem s_isub (hd : decode cc pc = .ok (.isub, 1)) : xSd k0 Ex cl own Ts cc nL ret R (pc, o_ii (fun a b => a - b)) := by
  intro p l e s m args below meth c D cA ρ A X Q J x hpc hJ ho H locs ls hl hP hD hS
  obtain ⟨pc', L, st, h, n⟩ := x
  obtain rfl : pc' = pc := hpc
  dsimp only [o_ii] at ho
  split at ho
  · rename_i b a r
    exact lv_isub X.1 X.2.1 hd (hJ _ ho H locs ls hl hP hD hS)
  · exact ho.elim
theorem s_imul (hd : decode cc pc = .ok (.imul, 1)) : xSd k0 Ex cl own Ts cc nL ret R (pc, o_ii (fun a b => a * b)) := by
  intro p l e s m args below meth c D cA ρ A X Q J x hpc hJ ho H locs ls hl hP hD hS
  obtain ⟨pc', L, st, h, n⟩ := x
  obtain rfl : pc' = pc := hpc
  dsimp only [o_ii] at ho
  split at ho
  · rename_i b a r
    exact lv_imul X.1 X.2.1 hd (hJ _ ho H locs ls hl hP hD hS)
  · exact ho.elim
theorem s_iand (hd : decode cc pc = .ok (.iand, 1)) : xSd k0 Ex cl own Ts cc nL ret R (pc, o_ii (fun a b => a &&& b)) := by
  intro p l e s m args below meth c D cA ρ A X Q J x hpc hJ ho H locs ls hl hP hD hS
  obtain ⟨pc', L, st, h, n⟩ := x
  obtain rfl : pc' = pc := hpc
  dsimp only [o_ii] at ho
  split at ho
  · rename_i b a r
    exact lv_iand X.1 X.2.1 hd (hJ _ ho H locs ls hl hP hD hS)
  · exact ho.elim
theorem s_ior (hd : decode cc pc = .ok (.ior, 1)) : xSd k0 Ex cl own Ts cc nL ret R (pc, o_ii (fun a b => a ||| b)) := by
  intro p l e s m args below meth c D cA ρ A X Q J x hpc hJ ho H locs ls hl hP hD hS
  obtain ⟨pc', L, st, h, n⟩ := x
  obtain rfl : pc' = pc := hpc
  dsimp only [o_ii] at ho
  split at ho
  · rename_i b a r
    exact lv_ior X.1 X.2.1 hd (hJ _ ho H locs ls hl hP hD hS)
  · exact ho.elim
theorem s_ixor (hd : decode cc pc = .ok (.ixor, 1)) : xSd k0 Ex cl own Ts cc nL ret R (pc, o_ii (fun a b => a ^^^ b)) := by
  intro p l e s m args below meth c D cA ρ A X Q J x hpc hJ ho H locs ls hl hP hD hS
  obtain ⟨pc', L, st, h, n⟩ := x
  obtain rfl : pc' = pc := hpc
  dsimp only [o_ii] at ho
  split at ho
  · rename_i b a r
    exact lv_ixor X.1 X.2.1 hd (hJ _ ho H locs ls hl hP hD hS)
  · exact ho.elim
theorem s_ishl (hd : decode cc pc = .ok (.ishl, 1)) : xSd k0 Ex cl own Ts cc nL ret R (pc, o_ii (fun a b => a <<< (b &&& 31))) := by
  intro p l e s m args below meth c D cA ρ A X Q J x hpc hJ ho H locs ls hl hP hD hS
  obtain ⟨pc', L, st, h, n⟩ := x
  obtain rfl : pc' = pc := hpc
  dsimp only [o_ii] at ho
  split at ho
  · rename_i b a r
    exact lv_ishl X.1 X.2.1 hd (hJ _ ho H locs ls hl hP hD hS)
  · exact ho.elim
theorem s_ishr (hd : decode cc pc = .ok (.ishr, 1)) : xSd k0 Ex cl own Ts cc nL ret R (pc, o_ii (fun a b => a >>> (b &&& 31))) := by
  intro p l e s m args below meth c D cA ρ A X Q J x hpc hJ ho H locs ls hl hP hD hS
  obtain ⟨pc', L, st, h, n⟩ := x
  obtain rfl : pc' = pc := hpc
  dsimp only [o_ii] at ho
  split at ho
  · rename_i b a r
    exact lv_ishr X.1 X.2.1 hd (hJ _ ho H locs ls hl hP hD hS)
  · exact ho.elim
theorem s_ladd (hd : decode cc pc = .ok (.ladd, 1)) : xSd k0 Ex cl own Ts cc nL ret R (pc, o_ll (fun a b => a + b)) := by
  intro p l e s m args below meth c D cA ρ A X Q J x hpc hJ ho H locs ls hl hP hD hS
  obtain ⟨pc', L, st, h, n⟩ := x
  obtain rfl : pc' = pc := hpc
  dsimp only [o_ll] at ho
  split at ho
  · rename_i b a r
    exact lv_ladd X.1 X.2.1 hd (hJ _ ho H locs ls hl hP hD hS)
  · exact ho.elim
theorem s_lsub (hd : decode cc pc = .ok (.lsub, 1)) : xSd k0 Ex cl own Ts cc nL ret R (pc, o_ll (fun a b => a - b)) := by
  intro p l e s m args below meth c D cA ρ A X Q J x hpc hJ ho H locs ls hl hP hD hS
  obtain ⟨pc', L, st, h, n⟩ := x
  obtain rfl : pc' = pc := hpc
  dsimp only [o_ll] at ho
  split at ho
  · rename_i b a r
    exact lv_lsub X.1 X.2.1 hd (hJ _ ho H locs ls hl hP hD hS)
  · exact ho.elim
theorem s_lmul (hd : decode cc pc = .ok (.lmul, 1)) : xSd k0 Ex cl own Ts cc nL ret R (pc, o_ll (fun a b => a * b)) := by
  intro p l e s m args below meth c D cA ρ A X Q J x hpc hJ ho H locs ls hl hP hD hS
  obtain ⟨pc', L, st, h, n⟩ := x
  obtain rfl : pc' = pc := hpc
  dsimp only [o_ll] at ho
  split at ho
  · rename_i b a r
    exact lv_lmul X.1 X.2.1 hd (hJ _ ho H locs ls hl hP hD hS)
  · exact ho.elim
theorem s_land (hd : decode cc pc = .ok (.land, 1)) : xSd k0 Ex cl own Ts cc nL ret R (pc, o_ll (fun a b => a &&& b)) := by
  intro p l e s m args below meth c D cA ρ A X Q J x hpc hJ ho H locs ls hl hP hD hS
  obtain ⟨pc', L, st, h, n⟩ := x
  obtain rfl : pc' = pc := hpc
  dsimp only [o_ll] at ho
  split at ho
  · rename_i b a r
    exact lv_land X.1 X.2.1 hd (hJ _ ho H locs ls hl hP hD hS)
  · exact ho.elim
theorem s_lor (hd : decode cc pc = .ok (.lor, 1)) : xSd k0 Ex cl own Ts cc nL ret R (pc, o_ll (fun a b => a ||| b)) := by
  intro p l e s m args below meth c D cA ρ A X Q J x hpc hJ ho H locs ls hl hP hD hS
  obtain ⟨pc', L, st, h, n⟩ := x
  obtain rfl : pc' = pc := hpc
  dsimp only [o_ll] at ho
  split at ho
  · rename_i b a r
    exact lv_lor X.1 X.2.1 hd (hJ _ ho H locs ls hl hP hD hS)
  · exact ho.elim
theorem s_lxor (hd : decode cc pc = .ok (.lxor, 1)) : xSd k0 Ex cl own Ts cc nL ret R (pc, o_ll (fun a b => a ^^^ b)) := by
  intro p l e s m args below meth c D cA ρ A X Q J x hpc hJ ho H locs ls hl hP hD hS
  obtain ⟨pc', L, st, h, n⟩ := x
  obtain rfl : pc' = pc := hpc
  dsimp only [o_ll] at ho
  split at ho
  · rename_i b a r
    exact lv_lxor X.1 X.2.1 hd (hJ _ ho H locs ls hl hP hD hS)
  · exact ho.elim
def o_dr (f : Int32 → Int32 → Int32) : xOp := fun x k _ => match x.2.2.1 with
  | .int b :: .int a :: r => ¬ b = 0 ∧ k (x.1 + 1, x.2.1, .int (f a b) :: r, x.2.2.2.1, x.2.2.2.2)
  | _ => False
theorem s_idiv (hd : decode cc pc = .ok (.idiv, 1)) : xSd k0 Ex cl own Ts cc nL ret R (pc, o_dr (fun a b => a / b)) := by
  intro p l e s m args below meth c D cA ρ A X Q J x hpc hJ ho H locs ls hl hP hD hS
  obtain ⟨pc', L, st, h, n⟩ := x
  obtain rfl : pc' = pc := hpc
  dsimp only [o_dr] at ho
  split at ho
  · rename_i b a r
    exact lv_idiv X.1 X.2.1 hd ho.1 (hJ _ ho.2 H locs ls hl hP hD hS)
  · exact ho.elim
theorem s_irem (hd : decode cc pc = .ok (.irem, 1)) : xSd k0 Ex cl own Ts cc nL ret R (pc, o_dr (fun a b => a - a / b * b)) := by
  intro p l e s m args below meth c D cA ρ A X Q J x hpc hJ ho H locs ls hl hP hD hS
  obtain ⟨pc', L, st, h, n⟩ := x
  obtain rfl : pc' = pc := hpc
  dsimp only [o_dr] at ho
  split at ho
  · rename_i b a r
    exact lv_irem X.1 X.2.1 hd ho.1 (hJ _ ho.2 H locs ls hl hP hD hS)
  · exact ho.elim
def xushr (a : Int64) (b : Int32) : Int64 := (a.toUInt64 >>> (b.toInt64.toUInt64 &&& Int64.toUInt64 63)).toInt64
def xshl (a : Int64) (b : Int32) : Int64 := a <<< (b.toInt64 &&& 63)
def o_li (f : Int64 → Int32 → Int64) : xOp := fun x k _ => match x.2.2.1 with
  | .int b :: .long a :: r => k (x.1 + 1, x.2.1, .long (f a b) :: r, x.2.2.2.1, x.2.2.2.2)
  | _ => False
theorem s_lushr (hd : decode cc pc = .ok (.lushr, 1)) : xSd k0 Ex cl own Ts cc nL ret R (pc, o_li xushr) := by
  intro p l e s m args below meth c D cA ρ A X Q J x hpc hJ ho H locs ls hl hP hD hS
  obtain ⟨pc', L, st, h, n⟩ := x
  obtain rfl : pc' = pc := hpc
  dsimp only [o_li] at ho
  split at ho
  · rename_i b a r
    exact lv_lushr X.1 X.2.1 hd rfl (hJ _ ho H locs ls hl hP hD hS)
  · exact ho.elim
theorem s_lshl (hd : decode cc pc = .ok (.lshl, 1)) : xSd k0 Ex cl own Ts cc nL ret R (pc, o_li xshl) := by
  intro p l e s m args below meth c D cA ρ A X Q J x hpc hJ ho H locs ls hl hP hD hS
  obtain ⟨pc', L, st, h, n⟩ := x
  obtain rfl : pc' = pc := hpc
  dsimp only [o_li] at ho
  split at ho
  · rename_i b a r
    exact lv_lshl X.1 X.2.1 hd rfl (hJ _ ho H locs ls hl hP hD hS)
  · exact ho.elim
def o_i2l : xOp := fun x k _ => match x.2.2.1 with
  | .int a :: r => k (x.1 + 1, x.2.1, .long a.toInt64 :: r, x.2.2.2.1, x.2.2.2.2)
  | _ => False
theorem s_i2l (hd : decode cc pc = .ok (.i2l, 1)) : xSd k0 Ex cl own Ts cc nL ret R (pc, o_i2l) := by
  intro p l e s m args below meth c D cA ρ A X Q J x hpc hJ ho H locs ls hl hP hD hS
  obtain ⟨pc', L, st, h, n⟩ := x
  obtain rfl : pc' = pc := hpc
  dsimp only [o_i2l] at ho
  split at ho
  · rename_i a r
    exact lv_i2l X.1 X.2.1 hd rfl (hJ _ ho H locs ls hl hP hD hS)
  · exact ho.elim
def o_l2i : xOp := fun x k _ => match x.2.2.1 with
  | .long a :: r => k (x.1 + 1, x.2.1, .int a.toInt32 :: r, x.2.2.2.1, x.2.2.2.2)
  | _ => False
theorem s_l2i (hd : decode cc pc = .ok (.l2i, 1)) : xSd k0 Ex cl own Ts cc nL ret R (pc, o_l2i) := by
  intro p l e s m args below meth c D cA ρ A X Q J x hpc hJ ho H locs ls hl hP hD hS
  obtain ⟨pc', L, st, h, n⟩ := x
  obtain rfl : pc' = pc := hpc
  dsimp only [o_l2i] at ho
  split at ho
  · rename_i a r
    exact lv_l2i X.1 X.2.1 hd rfl (hJ _ ho H locs ls hl hP hD hS)
  · exact ho.elim
def o_lcmp : xOp := fun x k _ => match x.2.2.1 with
  | .long b :: .long a :: r => k (x.1 + 1, x.2.1, .int (lg_cmp a b) :: r, x.2.2.2.1, x.2.2.2.2)
  | _ => False
theorem s_lcmp (hd : decode cc pc = .ok (.lcmp, 1)) : xSd k0 Ex cl own Ts cc nL ret R (pc, o_lcmp) := by
  intro p l e s m args below meth c D cA ρ A X Q J x hpc hJ ho H locs ls hl hP hD hS
  obtain ⟨pc', L, st, h, n⟩ := x
  obtain rfl : pc' = pc := hpc
  dsimp only [o_lcmp] at ho
  split at ho
  · rename_i b a r
    exact W.lcmp X.1 X.2.1 hd (hJ _ ho H locs ls hl hP hD hS)
  · exact ho.elim
def o_if (c : Int32 → Prop) (tgt : Nat) : xOp := fun x k _ => match x.2.2.1 with
  | .int a :: r => (c a → k (tgt, x.2.1, r, x.2.2.2.1, x.2.2.2.2)) ∧ (¬ c a → k (x.1 + 3, x.2.1, r, x.2.2.2.1, x.2.2.2.2))
  | _ => False
def o_ic (c : Int32 → Int32 → Prop) (tgt : Nat) : xOp := fun x k _ => match x.2.2.1 with
  | .int b :: .int a :: r => (c a b → k (tgt, x.2.1, r, x.2.2.2.1, x.2.2.2.2)) ∧ (¬ c a b → k (x.1 + 3, x.2.1, r, x.2.2.2.1, x.2.2.2.2))
  | _ => False
def o_ifn (c : Int32 → Prop) (tgt : Nat) : xOp := fun x k _ => match x.2.2.1 with
  | .int a :: r => (c a → k (x.1 + 3, x.2.1, r, x.2.2.2.1, x.2.2.2.2)) ∧ (¬ c a → k (tgt, x.2.1, r, x.2.2.2.1, x.2.2.2.2))
  | _ => False
def o_icn (c : Int32 → Int32 → Prop) (tgt : Nat) : xOp := fun x k _ => match x.2.2.1 with
  | .int b :: .int a :: r => (c a b → k (x.1 + 3, x.2.1, r, x.2.2.2.1, x.2.2.2.2)) ∧ (¬ c a b → k (tgt, x.2.1, r, x.2.2.2.1, x.2.2.2.2))
  | _ => False
theorem s_ifeq {z : Int} {tgt : Nat} (hd : decode cc pc = .ok (.ifCond .eq z, 3)) (ht : (pc : Int) + z = (tgt : Int)) : xSd k0 Ex cl own Ts cc nL ret R (pc, o_if (fun a => a = 0) tgt) := by
  intro p l e s m args below meth c D cA ρ A X Q J x hpc hJ ho H locs ls hl hP hD hS
  obtain ⟨pc', L, st, h, n⟩ := x
  obtain rfl : pc' = pc := hpc
  dsimp only [o_if] at ho
  split at ho
  · rename_i a r
    exact lv_if_eq X.1 X.2.1 hd ht (fun q => hJ _ (ho.1 q) H locs ls hl hP hD hS) (fun q => hJ _ (ho.2 q) H locs ls hl hP hD hS)
  · exact ho.elim
theorem s_iceq {z : Int} {tgt : Nat} (hd : decode cc pc = .ok (.if_icmp .eq z, 3)) (ht : (pc : Int) + z = (tgt : Int)) : xSd k0 Ex cl own Ts cc nL ret R (pc, o_ic (fun a b => a = b) tgt) := by
  intro p l e s m args below meth c D cA ρ A X Q J x hpc hJ ho H locs ls hl hP hD hS
  obtain ⟨pc', L, st, h, n⟩ := x
  obtain rfl : pc' = pc := hpc
  dsimp only [o_ic] at ho
  split at ho
  · rename_i b a r
    exact lv_icmp_eq X.1 X.2.1 hd ht (fun q => hJ _ (ho.1 q) H locs ls hl hP hD hS) (fun q => hJ _ (ho.2 q) H locs ls hl hP hD hS)
  · exact ho.elim
theorem s_iflt {z : Int} {tgt : Nat} (hd : decode cc pc = .ok (.ifCond .lt z, 3)) (ht : (pc : Int) + z = (tgt : Int)) : xSd k0 Ex cl own Ts cc nL ret R (pc, o_if (fun a => a < 0) tgt) := by
  intro p l e s m args below meth c D cA ρ A X Q J x hpc hJ ho H locs ls hl hP hD hS
  obtain ⟨pc', L, st, h, n⟩ := x
  obtain rfl : pc' = pc := hpc
  dsimp only [o_if] at ho
  split at ho
  · rename_i a r
    exact lv_if_lt X.1 X.2.1 hd ht (fun q => hJ _ (ho.1 q) H locs ls hl hP hD hS) (fun q => hJ _ (ho.2 q) H locs ls hl hP hD hS)
  · exact ho.elim
theorem s_iclt {z : Int} {tgt : Nat} (hd : decode cc pc = .ok (.if_icmp .lt z, 3)) (ht : (pc : Int) + z = (tgt : Int)) : xSd k0 Ex cl own Ts cc nL ret R (pc, o_ic (fun a b => a < b) tgt) := by
  intro p l e s m args below meth c D cA ρ A X Q J x hpc hJ ho H locs ls hl hP hD hS
  obtain ⟨pc', L, st, h, n⟩ := x
  obtain rfl : pc' = pc := hpc
  dsimp only [o_ic] at ho
  split at ho
  · rename_i b a r
    exact lv_icmp_lt X.1 X.2.1 hd ht (fun q => hJ _ (ho.1 q) H locs ls hl hP hD hS) (fun q => hJ _ (ho.2 q) H locs ls hl hP hD hS)
  · exact ho.elim
theorem s_ifge {z : Int} {tgt : Nat} (hd : decode cc pc = .ok (.ifCond .ge z, 3)) (ht : (pc : Int) + z = (tgt : Int)) : xSd k0 Ex cl own Ts cc nL ret R (pc, o_if (fun a => 0 ≤ a) tgt) := by
  intro p l e s m args below meth c D cA ρ A X Q J x hpc hJ ho H locs ls hl hP hD hS
  obtain ⟨pc', L, st, h, n⟩ := x
  obtain rfl : pc' = pc := hpc
  dsimp only [o_if] at ho
  split at ho
  · rename_i a r
    exact lv_if_ge X.1 X.2.1 hd ht (fun q => hJ _ (ho.1 q) H locs ls hl hP hD hS) (fun q => hJ _ (ho.2 q) H locs ls hl hP hD hS)
  · exact ho.elim
theorem s_icge {z : Int} {tgt : Nat} (hd : decode cc pc = .ok (.if_icmp .ge z, 3)) (ht : (pc : Int) + z = (tgt : Int)) : xSd k0 Ex cl own Ts cc nL ret R (pc, o_ic (fun a b => b ≤ a) tgt) := by
  intro p l e s m args below meth c D cA ρ A X Q J x hpc hJ ho H locs ls hl hP hD hS
  obtain ⟨pc', L, st, h, n⟩ := x
  obtain rfl : pc' = pc := hpc
  dsimp only [o_ic] at ho
  split at ho
  · rename_i b a r
    exact lv_icmp_ge X.1 X.2.1 hd ht (fun q => hJ _ (ho.1 q) H locs ls hl hP hD hS) (fun q => hJ _ (ho.2 q) H locs ls hl hP hD hS)
  · exact ho.elim
theorem s_ifgt {z : Int} {tgt : Nat} (hd : decode cc pc = .ok (.ifCond .gt z, 3)) (ht : (pc : Int) + z = (tgt : Int)) : xSd k0 Ex cl own Ts cc nL ret R (pc, o_if (fun a => 0 < a) tgt) := by
  intro p l e s m args below meth c D cA ρ A X Q J x hpc hJ ho H locs ls hl hP hD hS
  obtain ⟨pc', L, st, h, n⟩ := x
  obtain rfl : pc' = pc := hpc
  dsimp only [o_if] at ho
  split at ho
  · rename_i a r
    exact lv_if_gt X.1 X.2.1 hd ht (fun q => hJ _ (ho.1 q) H locs ls hl hP hD hS) (fun q => hJ _ (ho.2 q) H locs ls hl hP hD hS)
  · exact ho.elim
theorem s_icgt {z : Int} {tgt : Nat} (hd : decode cc pc = .ok (.if_icmp .gt z, 3)) (ht : (pc : Int) + z = (tgt : Int)) : xSd k0 Ex cl own Ts cc nL ret R (pc, o_ic (fun a b => b < a) tgt) := by
  intro p l e s m args below meth c D cA ρ A X Q J x hpc hJ ho H locs ls hl hP hD hS
  obtain ⟨pc', L, st, h, n⟩ := x
  obtain rfl : pc' = pc := hpc
  dsimp only [o_ic] at ho
  split at ho
  · rename_i b a r
    exact lv_icmp_gt X.1 X.2.1 hd ht (fun q => hJ _ (ho.1 q) H locs ls hl hP hD hS) (fun q => hJ _ (ho.2 q) H locs ls hl hP hD hS)
  · exact ho.elim
theorem s_ifle {z : Int} {tgt : Nat} (hd : decode cc pc = .ok (.ifCond .le z, 3)) (ht : (pc : Int) + z = (tgt : Int)) : xSd k0 Ex cl own Ts cc nL ret R (pc, o_if (fun a => a ≤ 0) tgt) := by
  intro p l e s m args below meth c D cA ρ A X Q J x hpc hJ ho H locs ls hl hP hD hS
  obtain ⟨pc', L, st, h, n⟩ := x
  obtain rfl : pc' = pc := hpc
  dsimp only [o_if] at ho
  split at ho
  · rename_i a r
    exact lv_if_le X.1 X.2.1 hd ht (fun q => hJ _ (ho.1 q) H locs ls hl hP hD hS) (fun q => hJ _ (ho.2 q) H locs ls hl hP hD hS)
  · exact ho.elim
theorem s_icle {z : Int} {tgt : Nat} (hd : decode cc pc = .ok (.if_icmp .le z, 3)) (ht : (pc : Int) + z = (tgt : Int)) : xSd k0 Ex cl own Ts cc nL ret R (pc, o_ic (fun a b => a ≤ b) tgt) := by
  intro p l e s m args below meth c D cA ρ A X Q J x hpc hJ ho H locs ls hl hP hD hS
  obtain ⟨pc', L, st, h, n⟩ := x
  obtain rfl : pc' = pc := hpc
  dsimp only [o_ic] at ho
  split at ho
  · rename_i b a r
    exact lv_icmp_le X.1 X.2.1 hd ht (fun q => hJ _ (ho.1 q) H locs ls hl hP hD hS) (fun q => hJ _ (ho.2 q) H locs ls hl hP hD hS)
  · exact ho.elim
theorem s_ifne {z : Int} {tgt : Nat} (hd : decode cc pc = .ok (.ifCond .ne z, 3)) (ht : (pc : Int) + z = (tgt : Int)) : xSd k0 Ex cl own Ts cc nL ret R (pc, o_ifn (fun a => a = 0) tgt) := by
  intro p l e s m args below meth c D cA ρ A X Q J x hpc hJ ho H locs ls hl hP hD hS
  obtain ⟨pc', L, st, h, n⟩ := x
  obtain rfl : pc' = pc := hpc
  dsimp only [o_ifn] at ho
  split at ho
  · rename_i a r
    exact lv_if_ne X.1 X.2.1 hd ht (fun q => hJ _ (ho.2 q) H locs ls hl hP hD hS) (fun q => hJ _ (ho.1 q) H locs ls hl hP hD hS)
  · exact ho.elim
theorem s_icne {z : Int} {tgt : Nat} (hd : decode cc pc = .ok (.if_icmp .ne z, 3)) (ht : (pc : Int) + z = (tgt : Int)) : xSd k0 Ex cl own Ts cc nL ret R (pc, o_icn (fun a b => a = b) tgt) := by
  intro p l e s m args below meth c D cA ρ A X Q J x hpc hJ ho H locs ls hl hP hD hS
  obtain ⟨pc', L, st, h, n⟩ := x
  obtain rfl : pc' = pc := hpc
  dsimp only [o_icn] at ho
  split at ho
  · rename_i b a r
    exact lv_icmp_ne X.1 X.2.1 hd ht (fun q => hJ _ (ho.2 q) H locs ls hl hP hD hS) (fun q => hJ _ (ho.1 q) H locs ls hl hP hD hS)
  · exact ho.elim
def o_goto (tgt : Nat) : xOp := fun x k _ => k (tgt, x.2.1, x.2.2.1, x.2.2.2.1, x.2.2.2.2)
theorem s_goto {z : Int} {tgt : Nat} (hd : decode cc pc = .ok (.goto z, 3)) (ht : (pc : Int) + z = (tgt : Int)) : xSd k0 Ex cl own Ts cc nL ret R (pc, o_goto tgt) := by
  intro p l e s m args below meth c D cA ρ A X Q J x hpc hJ ho H locs ls hl hP hD hS
  obtain ⟨pc', L, st, h, n⟩ := x
  obtain rfl : pc' = pc := hpc
  exact lv_goto X.1 X.2.1 hd ht (hJ _ ho H locs ls hl hP hD hS)
def o_dup : xOp := fun x k _ => match x.2.2.1 with
  | a :: r => bif Nat.beq a.category 1 then k (x.1 + 1, x.2.1, a :: a :: r, x.2.2.2.1, x.2.2.2.2) else False
  | _ => False
def o_pop : xOp := fun x k _ => match x.2.2.1 with
  | a :: r => bif Nat.beq a.category 1 then k (x.1 + 1, x.2.1, r, x.2.2.2.1, x.2.2.2.2) else False
  | _ => False
def o_dupx1 : xOp := fun x k _ => match x.2.2.1 with
  | a :: b :: r => bif Nat.beq a.category 1 && Nat.beq b.category 1 then k (x.1 + 1, x.2.1, a :: b :: a :: r, x.2.2.2.1, x.2.2.2.2) else False
  | _ => False
def o_dup2 : xOp := fun x k _ => match x.2.2.1 with
  | a :: b :: r => bif Nat.beq a.category 1 && Nat.beq b.category 1 then k (x.1 + 1, x.2.1, a :: b :: a :: b :: r, x.2.2.2.1, x.2.2.2.2) else False
  | _ => False
theorem bif_t {b : Bool} {P : Prop} (h : bif b then P else False) : b = true ∧ P := by
  cases b with
  | true => exact ⟨rfl, h⟩
  | false => exact h.elim
theorem cat1 {v : Value} {ρ : Nat → Nat} (h : Nat.beq v.category 1 = true) : (xv ρ v).category = 1 := by rw [xv_cat]; exact Nat.eq_of_beq_eq_true h
theorem s_dup (hd : decode cc pc = .ok (.dup, 1)) : xSd k0 Ex cl own Ts cc nL ret R (pc, o_dup) := by
  intro p l e s m args below meth c D cA ρ A X Q J x hpc hJ ho H locs ls hl hP hD hS
  obtain ⟨pc', L, st, h, n⟩ := x
  obtain rfl : pc' = pc := hpc
  dsimp only [o_dup] at ho
  split at ho
  · rename_i a r
    exact lv_dup X.1 X.2.1 hd (cat1 (bif_t ho).1) (hJ _ (bif_t ho).2 H locs ls hl hP hD hS)
  · exact ho.elim
theorem s_pop (hd : decode cc pc = .ok (.pop, 1)) : xSd k0 Ex cl own Ts cc nL ret R (pc, o_pop) := by
  intro p l e s m args below meth c D cA ρ A X Q J x hpc hJ ho H locs ls hl hP hD hS
  obtain ⟨pc', L, st, h, n⟩ := x
  obtain rfl : pc' = pc := hpc
  dsimp only [o_pop] at ho
  split at ho
  · rename_i a r
    exact lv_pop X.1 X.2.1 hd (cat1 (bif_t ho).1) (hJ _ (bif_t ho).2 H locs ls hl hP hD hS)
  · exact ho.elim
theorem s_dupx1 (hd : decode cc pc = .ok (.dup_x1, 1)) : xSd k0 Ex cl own Ts cc nL ret R (pc, o_dupx1) := by
  intro p l e s m args below meth c D cA ρ A X Q J x hpc hJ ho H locs ls hl hP hD hS
  obtain ⟨pc', L, st, h, n⟩ := x
  obtain rfl : pc' = pc := hpc
  dsimp only [o_dupx1] at ho
  split at ho
  · rename_i a b r
    obtain ⟨h1, h2⟩ := bif_t ho
    rw [Bool.and_eq_true] at h1
    exact lv_dup_x1 X.1 X.2.1 hd (cat1 h1.1) (cat1 h1.2) (hJ _ h2 H locs ls hl hP hD hS)
  · exact ho.elim
theorem s_dup2 (hd : decode cc pc = .ok (.dup2, 1)) : xSd k0 Ex cl own Ts cc nL ret R (pc, o_dup2) := by
  intro p l e s m args below meth c D cA ρ A X Q J x hpc hJ ho H locs ls hl hP hD hS
  obtain ⟨pc', L, st, h, n⟩ := x
  obtain rfl : pc' = pc := hpc
  dsimp only [o_dup2] at ho
  split at ho
  · rename_i a b r
    obtain ⟨h1, h2⟩ := bif_t ho
    rw [Bool.and_eq_true] at h1
    exact lv_dup2_11 X.1 X.2.1 hd (cat1 h1.1) (cat1 h1.2) (hJ _ h2 H locs ls hl hP hD hS)
  · exact ho.elim
def o_iaload : xOp := fun x k _ => match x.2.2.1 with
  | .int i :: .ref a :: r => match x.2.2.2.1[a]? with
    | some (.inl (0, (N, .inl f))) => vp_in i N ∧ k (x.1 + 1, x.2.1, .int (f i.toNatClampNeg) :: r, x.2.2.2.1, x.2.2.2.2)
    | _ => False
  | _ => False
theorem s_iaload (hd : decode cc pc = .ok (.iaload, 1)) : xSd k0 Ex cl own Ts cc nL ret R (pc, o_iaload) := by
  intro p l e s m args below meth c D cA ρ A X Q J x hpc hJ ho H locs ls hl hP hD hS
  obtain ⟨pc', L, st, h, n⟩ := x
  obtain rfl : pc' = pc := hpc
  dsimp only [o_iaload] at ho
  split at ho
  · rename_i i a r
    split at ho
    · rename_i N f hc
      exact va_iald X.1 X.2.1 X.2.2.2.2.2.2.2.1 hP a 0 (xw_at hc) rfl ho.1 hd (hJ _ ho.2 H locs ls hl hP hD hS)
    · exact ho.elim
  · exact ho.elim
def o_baload : xOp := fun x k _ => match x.2.2.1 with
  | .int i :: .ref a :: r => match x.2.2.2.1[a]? with
    | some (.inl (2, (N, .inl f))) => vp_in i N ∧ k (x.1 + 1, x.2.1, .int (f i.toNatClampNeg) :: r, x.2.2.2.1, x.2.2.2.2)
    | _ => False
  | _ => False
theorem s_baload (hd : decode cc pc = .ok (.baload, 1)) : xSd k0 Ex cl own Ts cc nL ret R (pc, o_baload) := by
  intro p l e s m args below meth c D cA ρ A X Q J x hpc hJ ho H locs ls hl hP hD hS
  obtain ⟨pc', L, st, h, n⟩ := x
  obtain rfl : pc' = pc := hpc
  dsimp only [o_baload] at ho
  split at ho
  · rename_i i a r
    split at ho
    · rename_i N f hc
      exact va_zald X.1 X.2.1 X.2.2.2.2.2.2.2.1 hP a 2 (xw_at hc) rfl ho.1 hd (hJ _ ho.2 H locs ls hl hP hD hS)
    · exact ho.elim
  · exact ho.elim
def o_laload : xOp := fun x k _ => match x.2.2.1 with
  | .int i :: .ref a :: r => match x.2.2.2.1[a]? with
    | some (.inl (1, (N, .inr (.inl f)))) => vp_in i N ∧ k (x.1 + 1, x.2.1, .long (f i.toNatClampNeg) :: r, x.2.2.2.1, x.2.2.2.2)
    | _ => False
  | _ => False
theorem s_laload (hd : decode cc pc = .ok (.laload, 1)) : xSd k0 Ex cl own Ts cc nL ret R (pc, o_laload) := by
  intro p l e s m args below meth c D cA ρ A X Q J x hpc hJ ho H locs ls hl hP hD hS
  obtain ⟨pc', L, st, h, n⟩ := x
  obtain rfl : pc' = pc := hpc
  dsimp only [o_laload] at ho
  split at ho
  · rename_i i a r
    split at ho
    · rename_i N f hc
      exact va_lald X.1 X.2.1 X.2.2.2.2.2.2.2.1 hP a 1 (xw_at hc) rfl ho.1 hd (hJ _ ho.2 H locs ls hl hP hD hS)
    · exact ho.elim
  · exact ho.elim
def o_iastore : xOp := fun x k _ => match x.2.2.1 with
  | .int v :: .int i :: .ref a :: r => match x.2.2.2.1[a]? with
    | some (.inl (0, (N, .inl f))) => vp_in i N ∧ k (x.1 + 1, x.2.1, r, x.2.2.2.1.set a (.inl (0, (N, .inl (upd f i.toNatClampNeg v)))), x.2.2.2.2)
    | _ => False
  | _ => False
theorem s_iastore (hd : decode cc pc = .ok (.iastore, 1)) : xSd k0 Ex cl own Ts cc nL ret R (pc, o_iastore) := by
  intro p l e s m args below meth c D cA ρ A X Q J x hpc hJ ho H locs ls hl hP hD hS
  obtain ⟨pc', L, st, h, n⟩ := x
  obtain rfl : pc' = pc := hpc
  dsimp only [o_iastore] at ho
  split at ho
  · rename_i v i a r
    split at ho
    · rename_i N f hc
      refine va_iast X.1 X.2.1 X.2.2.2.2.2.2.2.1 hP hD hS a 0 (xw_at hc) rfl ho.1 hd (fun H1 locs1 hP1 hD1 hS1 => ?_)
      have e := xw_set0 (ρ := ρ) (cA := cA) h a (.inl (0, (N, .inl (upd f i.toNatClampNeg v))))
      exact hJ _ ho.2 H1 locs1 ls hl (by rw [← e]; exact hP1) (by rw [← e]; exact hD1) hS1
    · exact ho.elim
  · exact ho.elim
def o_bastore : xOp := fun x k _ => match x.2.2.1 with
  | .int v :: .int i :: .ref a :: r => match x.2.2.2.1[a]? with
    | some (.inl (2, (N, .inl f))) => vp_in i N ∧ k (x.1 + 1, x.2.1, r, x.2.2.2.1.set a (.inl (2, (N, .inl (upd f i.toNatClampNeg (vp_nar .boolean v))))), x.2.2.2.2)
    | _ => False
  | _ => False
theorem s_bastore (hd : decode cc pc = .ok (.bastore, 1)) : xSd k0 Ex cl own Ts cc nL ret R (pc, o_bastore) := by
  intro p l e s m args below meth c D cA ρ A X Q J x hpc hJ ho H locs ls hl hP hD hS
  obtain ⟨pc', L, st, h, n⟩ := x
  obtain rfl : pc' = pc := hpc
  dsimp only [o_bastore] at ho
  split at ho
  · rename_i v i a r
    split at ho
    · rename_i N f hc
      refine va_zast X.1 X.2.1 X.2.2.2.2.2.2.2.1 hP hD hS a 2 (xw_at hc) rfl ho.1 hd (fun H1 locs1 hP1 hD1 hS1 => ?_)
      have e := xw_set0 (ρ := ρ) (cA := cA) h a (.inl (2, (N, .inl (upd f i.toNatClampNeg (vp_nar .boolean v)))))
      exact hJ _ ho.2 H1 locs1 ls hl (by rw [← e]; exact hP1) (by rw [← e]; exact hD1) hS1
    · exact ho.elim
  · exact ho.elim
def o_lastore : xOp := fun x k _ => match x.2.2.1 with
  | .long v :: .int i :: .ref a :: r => match x.2.2.2.1[a]? with
    | some (.inl (1, (N, .inr (.inl f)))) => vp_in i N ∧ k (x.1 + 1, x.2.1, r, x.2.2.2.1.set a (.inl (1, (N, .inr (.inl (vp_updL f i.toNatClampNeg v))))), x.2.2.2.2)
    | _ => False
  | _ => False
theorem s_lastore (hd : decode cc pc = .ok (.lastore, 1)) : xSd k0 Ex cl own Ts cc nL ret R (pc, o_lastore) := by
  intro p l e s m args below meth c D cA ρ A X Q J x hpc hJ ho H locs ls hl hP hD hS
  obtain ⟨pc', L, st, h, n⟩ := x
  obtain rfl : pc' = pc := hpc
  dsimp only [o_lastore] at ho
  split at ho
  · rename_i v i a r
    split at ho
    · rename_i N f hc
      refine va_last X.1 X.2.1 X.2.2.2.2.2.2.2.1 hP hD hS a 1 (xw_at hc) rfl ho.1 hd (fun H1 locs1 hP1 hD1 hS1 => ?_)
      have e := xw_set0 (ρ := ρ) (cA := cA) h a (.inl (1, (N, .inr (.inl (vp_updL f i.toNatClampNeg v)))))
      exact hJ _ ho.2 H1 locs1 ls hl (by rw [← e]; exact hP1) (by rw [← e]; exact hD1) hS1
    · exact ho.elim
  · exact ho.elim
end XS
end
section
section XF
variable {k0 : Nat × Nat} {Ex : Code → State → (Nat → Nat) → (Nat → Prop) → Prop} {cl : List vw_C} {own : String} {Ts : List Cond} {cc : ByteArray} {nL : Nat} {ret : Option FieldType} {R : Room} {pc : Nat}
def o_getf (ci f : Nat) : xOp := fun x k _ => match x.2.2.1 with
  | .ref a :: r => match x.2.2.2.1[a]? with
    | some (.inr (cj, fs)) => match fs[f]? with
      | some v => bif Nat.beq cj ci then k (x.1 + 3, x.2.1, v :: r, x.2.2.2.1, x.2.2.2.2) else False
      | none => False
    | _ => False
  | _ => False
def o_puti (ci f : Nat) : xOp := fun x k _ => match x.2.2.1 with
  | .int v :: .ref a :: r => match x.2.2.2.1[a]? with
    | some (.inr (cj, fs)) => bif Nat.beq cj ci && Nat.blt f fs.length then k (x.1 + 3, x.2.1, r, x.2.2.2.1.set a (.inr (cj, fs.set f (.int v))), x.2.2.2.2) else False
    | _ => False
  | _ => False

theorem s_getf {ci f i : Nat} {C : String} {T : u_T} {N : Nat} (hd : decode cc pc = .ok (.getfield i, 3)) (hc : cl[ci]? = some (C, T, N)) (hin : ∀ w ∈ u_ws C T N, w ∈ Ts) (hf : f < N) (hw : Cond.fieldLink own i (T f).1 (T f).2.1 (T f).2.2.1 ∈ Ts) : xSd k0 Ex cl own Ts cc nL ret R (pc, o_getf ci f) := by
  intro p l e s m args below meth c D cA ρ A X Q J x hpc hJ ho H locs ls hl hP hD hS
  obtain ⟨pc', L, st, h, n⟩ := x
  obtain rfl : pc' = pc := hpc
  dsimp only [o_getf] at ho
  split at ho
  · rename_i a r
    split at ho
    · rename_i cj fs he
      split at ho
      · rename_i v hfv
        obtain ⟨h1, h2⟩ := bif_t ho
        obtain rfl : cj = ci := Nat.eq_of_beq_eq_true h1
        exact va_get X.1 X.2.1 X.2.2.2.2.2.2.1 hin X.2.2.2.2.2.1 X.2.2.2.2.2.2.2.1 hP a (xw_at he) hc f hf (X.2.2.2.2.2.2.1 _ hw) (fun _ q => q) (v := xv ρ v) (by rw [List.getElem?_map, hfv]; rfl) hd (hJ _ h2 H locs ls hl hP hD hS)
      · exact ho.elim
    · exact ho.elim
  · exact ho.elim
theorem s_getfN {ci f i : Nat} {C : String} {T : u_T} {N : Nat} {host : String} (hd : decode cc pc = .ok (.getfield i, 3)) (hc : cl[ci]? = some (C, T, N)) (hin : ∀ w ∈ u_ws C T N, w ∈ Ts) (hf : f < N) (hw : Cond.fieldLinkNest own i (T f).1 (T f).2.1 (T f).2.2.1 host ∈ Ts) : xSd k0 Ex cl own Ts cc nL ret R (pc, o_getf ci f) := by
  intro p l e s m args below meth c D cA ρ A X Q J x hpc hJ ho H locs ls hl hP hD hS
  obtain ⟨pc', L, st, h, n⟩ := x
  obtain rfl : pc' = pc := hpc
  dsimp only [o_getf] at ho
  split at ho
  · rename_i a r
    split at ho
    · rename_i cj fs he
      split at ho
      · rename_i v hfv
        obtain ⟨h1, h2⟩ := bif_t ho
        obtain rfl : cj = ci := Nat.eq_of_beq_eq_true h1
        exact va_getN X.1 X.2.1 X.2.2.2.2.2.2.1 hin X.2.2.2.2.2.1 X.2.2.2.2.2.2.2.1 hP a (xw_at he) hc f hf (X.2.2.2.2.2.2.1 _ hw) (fun _ q => q) (v := xv ρ v) (by rw [List.getElem?_map, hfv]; rfl) hd (hJ _ h2 H locs ls hl hP hD hS)
      · exact ho.elim
    · exact ho.elim
  · exact ho.elim
theorem s_puti {ci f i : Nat} {C : String} {T : u_T} {N : Nat} (hd : decode cc pc = .ok (.putfield i, 3)) (hc : cl[ci]? = some (C, T, N)) (hin : ∀ w ∈ u_ws C T N, w ∈ Ts) (hf : f < N) (hw : Cond.fieldLink own i (T f).1 (T f).2.1 (T f).2.2.1 ∈ Ts) (ty0 : Nat → FieldType) (hty : ∀ k, k < N → parseFieldDescriptor (T k).2.2.1 = some (ty0 k)) (hnm : ∀ a, a < N → ∀ b, b < N → a ≠ b → (T a).2.1 ≠ (T b).2.1) (hfin : (T f).2.2.2 = false) (hde : parseFieldDescriptor (T f).2.2.1 = some .int) : xSd k0 Ex cl own Ts cc nL ret R (pc, o_puti ci f) := by
  intro p l e s m args below meth c D cA ρ A X Q J x hpc hJ ho H locs ls hl hP hD hS
  obtain ⟨pc', L, st, h, n⟩ := x
  obtain rfl : pc' = pc := hpc
  dsimp only [o_puti] at ho
  split at ho
  · rename_i v a r
    split at ho
    · rename_i cj fs he
      obtain ⟨h1, h2⟩ := bif_t ho
      rw [Bool.and_eq_true] at h1
      obtain rfl : cj = ci := Nat.eq_of_beq_eq_true h1.1
      have hlt : f < fs.length := Nat.le_of_ble_eq_true h1.2
      refine va_put X.1 X.2.1 X.2.2.2.2.2.2.1 hin ty0 hty hnm X.2.2.2.2.2.1 X.2.2.2.2.2.2.2.1 hP hD hS a (xw_at he) hc f hf (X.2.2.2.2.2.2.1 _ hw) (fun _ q => q) hfin (v := .int v) hde rfl rfl (by rw [List.length_map]; exact hlt) hd (fun H1 locs1 hP1 hD1 hS1 => ?_)
      have e := xw_set0 (ρ := ρ) (cA := cA) h a (.inr (cj, fs.set f (.int v)))
      have e2 : xe ρ cA (.inr (cj, fs.set f (.int v))) = .inr (cj, (fs.map (xv ρ)).set f (.int v)) := by
        show Sum.inr (cj, (fs.set f (.int v)).map (xv ρ)) = _
        rw [List.map_set]; rfl
      rw [e2] at e
      exact hJ _ h2 H1 locs1 ls hl (by rw [← e]; exact hP1) (by rw [← e]; exact hD1) hS1
    · exact ho.elim
  · exact ho.elim
theorem s_putiN {ci f i : Nat} {C : String} {T : u_T} {N : Nat} {host : String} (hd : decode cc pc = .ok (.putfield i, 3)) (hc : cl[ci]? = some (C, T, N)) (hin : ∀ w ∈ u_ws C T N, w ∈ Ts) (hf : f < N) (hw : Cond.fieldLinkNest own i (T f).1 (T f).2.1 (T f).2.2.1 host ∈ Ts) (ty0 : Nat → FieldType) (hty : ∀ k, k < N → parseFieldDescriptor (T k).2.2.1 = some (ty0 k)) (hnm : ∀ a, a < N → ∀ b, b < N → a ≠ b → (T a).2.1 ≠ (T b).2.1) (hfin : (T f).2.2.2 = false) (hde : parseFieldDescriptor (T f).2.2.1 = some .int) : xSd k0 Ex cl own Ts cc nL ret R (pc, o_puti ci f) := by
  intro p l e s m args below meth c D cA ρ A X Q J x hpc hJ ho H locs ls hl hP hD hS
  obtain ⟨pc', L, st, h, n⟩ := x
  obtain rfl : pc' = pc := hpc
  dsimp only [o_puti] at ho
  split at ho
  · rename_i v a r
    split at ho
    · rename_i cj fs he
      obtain ⟨h1, h2⟩ := bif_t ho
      rw [Bool.and_eq_true] at h1
      obtain rfl : cj = ci := Nat.eq_of_beq_eq_true h1.1
      have hlt : f < fs.length := Nat.le_of_ble_eq_true h1.2
      refine va_putN X.1 X.2.1 X.2.2.2.2.2.2.1 hin ty0 hty hnm X.2.2.2.2.2.1 X.2.2.2.2.2.2.2.1 hP hD hS a (xw_at he) hc f hf (X.2.2.2.2.2.2.1 _ hw) (fun _ q => q) hfin (v := .int v) hde rfl rfl (by rw [List.length_map]; exact hlt) hd (fun H1 locs1 hP1 hD1 hS1 => ?_)
      have e := xw_set0 (ρ := ρ) (cA := cA) h a (.inr (cj, fs.set f (.int v)))
      have e2 : xe ρ cA (.inr (cj, fs.set f (.int v))) = .inr (cj, (fs.map (xv ρ)).set f (.int v)) := by
        show Sum.inr (cj, (fs.set f (.int v)).map (xv ρ)) = _
        rw [List.map_set]; rfl
      rw [e2] at e
      exact hJ _ h2 H1 locs1 ls hl (by rw [← e]; exact hP1) (by rw [← e]; exact hD1) hS1
    · exact ho.elim
  · exact ho.elim
end XF
section XR
variable {p : Program} {l : Launch} {e : Env} {R : Room} {s : State} {m : MethodId} {args : Array Value} {below : List Frame} {meth : Method} {c : Code} {H : Heap} {locs : List Loc} {cells slots : Nat}
theorem W.mono {Q Q' : State → Prop} {g : JFrame} (k : W p l e R s m args below meth c H locs cells slots Q g) (h : ∀ t, Q t → Q' t) : W p l e R s m args below meth c H locs cells slots Q' g := fun T hT X => by
  obtain ⟨t, a, b⟩ := k T hT X
  exact ⟨t, a, h t b⟩
theorem xret {k0 : Nat × Nat} {cl : List vw_C} {D : va_G} {cA : Nat → ClassId} {ρ : Nat → Nat} {A : Nat → Prop} {Q : xQ} {v : Option Value} {h : xH} {n : Nat} (hQ : Q (.inl v) h n) (hP : va_P D cl (xw ρ cA 0 h) H) (hD : va_D A (xw ρ cA 0 h)) (hS : va_S A s.heap H locs) {t : State}
    (hq : MQ below (fun _ _ o t => o = .returned (v.map (xv ρ)) ∧ t.heap = H ∧ s.WarmedH t.vm) args s (k0.1 + n) (k0.2 + 6 * n) A t) : xMQ k0 cl D cA ρ A Q s below t := by
  obtain ⟨o, h1, h2, ⟨h3, h4, h5⟩, L, ⟨-, -, h6⟩, h7⟩ := hq
  refine ⟨o, h1, h2, .inl v, h, n, hQ, ?_, by rw [h4]; exact hP, hD, hS.F h4, h5, L, h6, h7⟩
  cases v with
  | none => exact h3
  | some w => exact h3
end XR
section XV
variable {k0 : Nat × Nat} {Ex : Code → State → (Nat → Nat) → (Nat → Prop) → Prop} {cl : List vw_C} {own : String} {Ts : List Cond} {cc : ByteArray} {nL : Nat} {ret : Option FieldType} {R : Room} {pc : Nat}
def o_iret : xOp := fun x _ Q => match x.2.2.1 with
  | [.int v] => Q (.inl (some (.int v))) x.2.2.2.1 x.2.2.2.2
  | _ => False
def o_zret : xOp := fun x _ Q => match x.2.2.1 with
  | [.int v] => (v = 0 ∨ v = 1) ∧ Q (.inl (some (.int v))) x.2.2.2.1 x.2.2.2.2
  | _ => False
def o_lret : xOp := fun x _ Q => match x.2.2.1 with
  | [.long v] => Q (.inl (some (.long v))) x.2.2.2.1 x.2.2.2.2
  | _ => False
def o_vret : xOp := fun x _ Q => match x.2.2.1 with
  | [] => Q (.inl none) x.2.2.2.1 x.2.2.2.2
  | _ => False
theorem s_iret (hd : decode cc pc = .ok (.ireturn, 1)) : xSd k0 Ex cl own Ts cc nL (some .int) R (pc, o_iret) := by
  intro p l e s m args below meth c D cA ρ A X Q J x hpc hJ ho H locs ls hl hP hD hS
  obtain ⟨pc', L, st, h, n⟩ := x
  obtain rfl : pc' = pc := hpc
  dsimp only [o_iret] at ho
  split at ho
  · rename_i v
    have hlocks := X.2.2.2.2.1
    exact W.mono (W.iret (v := v) (free := A) X.1 X.2.1 X.2.2.2.1 (fun t ht hW => ⟨rfl, ht, hW⟩) hS.2.2 hd) (fun t ht => xret (v := some (.int v)) ho hP hD hS ht)
  · exact ho.elim
theorem s_zret (hd : decode cc pc = .ok (.ireturn, 1)) : xSd k0 Ex cl own Ts cc nL (some .boolean) R (pc, o_zret) := by
  intro p l e s m args below meth c D cA ρ A X Q J x hpc hJ ho H locs ls hl hP hD hS
  obtain ⟨pc', L, st, h, n⟩ := x
  obtain rfl : pc' = pc := hpc
  dsimp only [o_zret] at ho
  split at ho
  · rename_i v
    have hlocks := X.2.2.2.2.1
    have hn : narrow .boolean (.int v) = .int v := by
      rcases ho.1 with q | q <;> subst q <;> decide
    exact W.mono (W.zret (v := v) (free := A) X.1 X.2.1 X.2.2.2.1 hn (fun t ht hW => ⟨rfl, ht, hW⟩) hS.2.2 hd) (fun t ht => xret (v := some (.int v)) ho.2 hP hD hS ht)
  · exact ho.elim
theorem s_lret (hd : decode cc pc = .ok (.lreturn, 1)) : xSd k0 Ex cl own Ts cc nL (some .long) R (pc, o_lret) := by
  intro p l e s m args below meth c D cA ρ A X Q J x hpc hJ ho H locs ls hl hP hD hS
  obtain ⟨pc', L, st, h, n⟩ := x
  obtain rfl : pc' = pc := hpc
  dsimp only [o_lret] at ho
  split at ho
  · rename_i v
    have hlocks := X.2.2.2.2.1
    exact W.mono (W.lret (v := v) (free := A) X.1 X.2.1 X.2.2.2.1 (fun t ht hW => ⟨rfl, ht, hW⟩) hS.2.2 hd) (fun t ht => xret (v := some (.long v)) ho hP hD hS ht)
  · exact ho.elim
theorem s_vret (hd : decode cc pc = .ok (.return_, 1)) : xSd k0 Ex cl own Ts cc nL none R (pc, o_vret) := by
  intro p l e s m args below meth c D cA ρ A X Q J x hpc hJ ho H locs ls hl hP hD hS
  obtain ⟨pc', L, st, h, n⟩ := x
  obtain rfl : pc' = pc := hpc
  dsimp only [o_vret] at ho
  split at ho
  · have hlocks := X.2.2.2.2.1
    exact W.mono (W.vret (free := A) X.1 X.2.1 X.2.2.2.1 (fun t ht hW => ⟨rfl, ht, hW⟩) hS.2.2 hd) (fun t ht => xret (v := none) ho hP hD hS ht)
  · exact ho.elim
end XV
/-- how a method's frame begins -/
def xen : List Value → xL
  | [] => []
  | v :: t => bif Nat.beq v.category 2 then some v :: none :: xen t else some v :: xen t
def xA (ρ : Nat → Nat) (k sz : Nat) : Nat → Prop := fun q => (∃ i, i < k ∧ q = ρ i) ∨ sz ≤ q
def xPre (cl : List vw_C) (D : va_G) (cA : Nat → ClassId) (ρ : Nat → Nat) (vs : List Value) (h : xH) (sz : Nat) : Array Value → State → Prop := fun a U => a = (vs.map (xv ρ)).toArray ∧ U.heap.size = sz ∧ va_P D cl (xw ρ cA 0 h) U.heap ∧ va_K D cl (xty cA) U ∧ va_D (fun _ => True) (xw ρ cA 0 h) ∧ xHs U
/-- a method's contract: what its meaning F promises, the machine does -/
def xMet (cl : List vw_C) (y : MethodName) (ws : List Cond) (rm : Room) (F : xP) : Prop := ∀ (l : Launch) (D : va_G) (cA : Nat → ClassId) (ρ : Nat → Nat) (vs : List Value) (h : xH) (Q : xQ) (sz : Nat), xLo l → F vs h Q →
  MetFree l y (headSpec ws rm) (xPre cl D cA ρ vs h sz) (fun _ _ _ _ _ => True) (fun _ st o t => xEnd (0, 0) cl D cA ρ (xA ρ h.length sz) Q st o t)
def xRun (tb : xT) (nL : Nat) : xP := fun vs h Q => (xen vs).length ≤ nL ∧ xG tb Q (0, xen vs ++ List.replicate (nL - (xen vs).length) none, [], h, 0)
theorem xMet.weak {cl : List vw_C} {y : MethodName} {ws : List Cond} {rm : Room} {F F' : xP} (h : xMet cl y ws rm F) (hF : ∀ vs h Q, F' vs h Q → F vs h Q) : xMet cl y ws rm F' := fun l D cA ρ vs hh Q sz hlo q => h l D cA ρ vs hh Q sz hlo (hF vs hh Q q)
theorem xla_none (ρ : Nat → Nat) : ∀ (k i : Nat), xla ρ i (List.replicate k none) = []
  | 0, i => rfl
  | k + 1, i => by rw [List.replicate_succ]; exact xla_none ρ k (i + 1)
theorem xen_la (ρ : Nat → Nat) (k : Nat) : ∀ (vs : List Value) (i : Nat), xla ρ i (xen vs ++ List.replicate k none) = lv_args i (vs.map (xv ρ))
  | [], i => xla_none ρ k i
  | v :: t, i => by
    unfold xen
    simp only [List.map_cons, lv_args, xv_cat]
    cases hb : Nat.beq v.category 2 with
    | true =>
      have : v.category = 2 := Nat.eq_of_beq_eq_true hb
      rw [if_pos this, ← xen_la ρ k t (i + 2)]
      rfl
    | false =>
      rw [if_neg (beq_f hb), ← xen_la ρ k t (i + 1)]
      rfl
theorem xen_len (ρ : Nat → Nat) : ∀ (vs : List Value), (lg_sl (vs.map (xv ρ))).length = (xen vs).length
  | [] => rfl
  | v :: t => by
    have ih := xen_len ρ t
    unfold lg_sl at ih ⊢
    unfold xen
    simp only [List.map_cons, List.flatMap_cons, List.length_append, xv_cat, ih]
    cases hb : Nat.beq v.category 2 with
    | true =>
      have : v.category = 2 := Nat.eq_of_beq_eq_true hb
      rw [if_pos this]
      simp
      omega
    | false =>
      rw [if_neg (beq_f hb)]
      simp
      omega
theorem xw_len (ρ : Nat → Nat) (cA : Nat → ClassId) : ∀ (h : xH) (i : Nat), (xw ρ cA i h).length = h.length
  | [], i => rfl
  | c :: t, i => by simp [xw, xw_len ρ cA t (i + 1)]
theorem xD_A {ρ : Nat → Nat} {cA : Nat → ClassId} {h : xH} {A : Nat → Prop} {sz : Nat} (hD : va_D A (xw ρ cA 0 h)) : va_D (xA ρ h.length sz) (xw ρ cA 0 h) :=
  hD.weaken fun k q hk _ => by
    rw [xw_get] at hk
    cases hh : h[k]? with
    | none => rw [hh] at hk; cases hk
    | some c =>
      rw [hh] at hk
      simp only [Option.map_some, Option.some.injEq, Nat.zero_add] at hk
      exact Or.inl ⟨k, (List.getElem?_eq_some_iff.mp hh).1, by rw [← hk]⟩
theorem xA_sub {ρ : Nat → Nat} {cA : Nat → ClassId} {h : xH} {A : Nat → Prop} {sz sz0 : Nat} (hD : va_D A (xw ρ cA 0 h)) (hA : ∀ q, sz0 ≤ q → A q) (hs : sz0 ≤ sz) : ∀ q, xA ρ h.length sz q → A q := fun q hq => by
  rcases hq with ⟨i, hi, rfl⟩ | hq
  · have hg : h[i]? = some h[i] := List.getElem?_eq_getElem hi
    exact hD.2 i _ (xw_at hg)
  · exact hA q (Nat.le_trans hs hq)
theorem x_ns {cl : List vw_C} {D : va_G} {cA : Nat → ClassId} {ρ : Nat → Nat} {h : xH} {H : Heap} (hP : va_P D cl (xw ρ cA 0 h) H) : ∀ q, xA ρ h.length H.size q → ∀ cell : Cell, H[q]? = some cell → cell.vm.isStatics = false := by
  intro q hq cell hc
  rcases hq with ⟨i, hi, rfl⟩ | hq
  · have hg : h[i]? = some h[i] := List.getElem?_eq_getElem hi
    have h1 := hP i _ (xw_at hg)
    generalize h[i] = w at h1
    rcases w with a | o
    · have h2 : H[ρ i]? = some (vp_cell (cA a.1) a.2) := h1
      rw [h2] at hc
      have h3 : vp_cell (cA a.1) a.2 = cell := Option.some.inj hc
      rw [← h3]
      obtain ⟨t, n, f | f | f | f | f⟩ := a <;> rfl
    · obtain ⟨r, -, c2, w1, w2, w3, -⟩ := h1
      rw [w1] at hc
      have h3 : c2 = cell := Option.some.inj hc
      rw [← h3, w3]
      rfl
  · have : H[q]? = none := by simp [hq]
    rw [this] at hc
    cases hc
theorem xMet.of {cl : List vw_C} {y : MethodName} {ws ws' : List Cond} {rm : Room} {cc : ByteArray} {nL : Nat} {ret : Option FieldType} {tb : xT} (hy : plainName y.cls = true) (hw : ws = Cond.code y cc nL ret :: ws') (hv : ∀ q ∈ tb, xSd (0, 0) x0 cl y.cls ws cc nL ret rm q) : xMet cl y ws rm (xRun tb nL) := by
  intro l D cA ρ vs h Q sz hlo hF
  refine MetFree.of_bodyS (code := cc) (maxLocals := nL) (ret := ret) hy ?_ ?_
  · intro args s m hh hn
    obtain ⟨meth, c, h1, h2, h3, h4, h5, h6, -, -⟩ := Cond.code_spec hn (atoms_spec (ws := ws) hh _ (by rw [hw]; exact List.mem_cons_self))
    exact ⟨meth, c, h1, h2, h3, h4, h5, h6⟩
  · intro p e s m args below meth c s₁ B hml hP _
    obtain ⟨rfl, hsz, hP, hK, hD0, hHs⟩ := hP
    subst hsz
    have hh0 : s₁.heap = s.heap := by rw [B.state]; rfl
    have hts := atoms_spec (ws := ws) B.pre
    have hcw : Cond.code y cc nL ret ∈ ws := by rw [hw]; exact List.mem_cons_self
    have hX : xCx x0 cl y.cls ws cc nL ret p l s m (vs.map (xv ρ)).toArray meth c D cA ρ (xA ρ h.length s.heap.size) :=
      ⟨B.exec, B.bytes, hml, B.returns, B.notSynchronized, findClass_of_methodNamed B.named, hts, hK, fun q hq => Or.inr hq, B.noHandlers (hts _ hcw), hlo, x_ns hP, hHs⟩
    have hl := lv_entry (vs.map (xv ρ)) (n := nL) (by rw [xen_len]; exact hF.1)
    have hk := xSd.all (l := l) (e := e) (below := below) (ρ := ρ) hv hX hF.2 s.heap [] _ (by rw [xen_la]; exact hl) hP (xD_A hD0) va_S.rf
    obtain ⟨t, a1, o, b1, b2, b3⟩ := hk s₁ hh0 (Stand.of_body B)
    exact ⟨t, o, by rw [lg_entry_eq]; exact a1, b1, b2, b3⟩

section XK
variable {p : Program} {l : Launch} {e : Env} {R : Room} {s : State} {m : MethodId} {args : Array Value} {below : List Frame} {meth : Method} {c : Code} {T : State} {locs : List Loc} {cells slots : Nat}
/-- a callee is entered and has ended, whatever way -/
theorem x_in (X : Stand p l e R s m args below meth c T locs cells slots) {g : JFrame} (hg : g.method = m) (hsize : g.locals.size = c.maxLocals) {ig : Instr} {len : Nat} (hdg : decode c.code g.pc = .ok (ig, len)) {y : MethodName} {mk : MethodId} (hn : T.methodNamed? y = some mk)
    {ws : List Cond} {rm : Room} {Pf : Array Value → State → Prop} {Qf : Array Value → State → Outcome → State → Prop} (hM : MetFree l y (headSpec ws rm) Pf (fun _ _ _ _ _ => True) Qf) {a : Array Value} {maxL : Nat}
    (hws : ∀ w ∈ ws, w.before a T = true) (hcY : ∃ methY cY, T.vm.method? mk = some methY ∧ methY.code = some cY ∧ cY.maxLocals = maxL) (hini : (Cond.initialized y.cls).before a T = true)
    (hfr : rm.frames + 1 ≤ R.frames) (hlo : 2 * g.monitorRoom + (g.stack.map fun v => v.category).sum + (maxL + 11) + rm.locals ≤ R.locals) (hce : cells + rm.cells ≤ R.cells) (hsl : slots + rm.slots ≤ R.slots) (hP : Pf a (T.calling g mk a)) :
    ∃ o s₂, Steps p.tables e below (doInvoke e (T.setTop g) [] mk a).1 s₂ ∧ s₂.status = .running ∧ Ended s₂ (.java g :: below) o ∧ Qf a (T.calling g mk a) o s₂ := by
  obtain ⟨methY, cY, hmY, hcY, hlY⟩ := hcY
  obtain ⟨kY, hkY, -⟩ := className_of_methodNamed hn
  have hinitY : kY.init = .initialized := Cond.initialized_spec (findClass_of_methodNamed hn) hkY hini
  have h : At T g.method c below := by rw [hg]; exact X.here
  have happ : (headSpec ws rm).appliesLoose y e.platform (T.calling g mk a) = true :=
    Spec.appliesLoose_calling (g := g) h hdg hn hkY hinitY (X.room_calling (g := g) (R' := rm) hsize hmY hcY hfr (by rw [hlY]; exact hlo) hce hsl) (atoms_intro hws)
  obtain ⟨mid, hmid⟩ := h.above
  have hfr2 : (T.setTop g).frames = (.java g :: mid) ++ below := by rw [State.frames_setTop' g h.top, hmid]; rfl
  obtain ⟨o, s₂, hsteps, hrun, hend, hq⟩ := Steps.callFree hM p X.admits X.cas X.clock (acts := []) hfr2 happ hP trivial
  rw [State.frames_setTop' g h.top, X.tail] at hend
  exact ⟨o, s₂, hsteps, hrun, hend, hq⟩
end XK
end
section
def xnw : Cond → Bool
  | .fieldLinkNest .. => true
  | .methodLinkNest .. => true
  | .declares _ => true
  | .castable .. => true
  | .stringRef .. => true
  | _ => false
def xgw (w : Cond) : Prop := ((w.onTables && w.keeps) = true ∨ ∃ ty, w = .arrayClass ty) ∨ xnw w = true
theorem xgw_at {w : Cond} {args a' : Array Value} {s U : State} (hW : s.WarmedH U.vm) (hg : xgw w) (h : w.before args s = true) : w.before a' U = true := by
  rcases hg with hg | hg
  · exact word_at hW hg h
  · cases w with
    | fieldLinkNest a i b n d hh => exact va_Nw.use rfl (va_Nw.warmF hW (va_Nw.of rfl h))
    | methodLinkNest a i x hh => exact va_Nw.use rfl (va_Nw.warmM hW (va_Nw.of rfl h))
    | declares x => exact va_tabs rfl (rfl : (s.setVm U.vm).vm = U.vm) (Cond.before_shiftedFace (args := args) (State.Shifted.of_warmed hW) (Cond.declares x) rfl h)
    | castable x y => exact va_tabs rfl (rfl : (s.setVm U.vm).vm = U.vm) (Cond.before_shiftedFace (args := args) (State.Shifted.of_warmed hW) (Cond.castable x y) rfl h)
    | stringRef x y z =>
      have h1 := Cond.stringRef_warmed hW h
      simp only [Cond.before, Cond.holds, Cond.value, State.names, State.poolOf?, State.resolvedAt?, State.vm_setVm] at h1 ⊢
      exact h1
    | _ => cases hg
/-- the words of a callee are among the caller's, and stay true -/
def xGood (big ws : List Cond) : Prop := ∀ w ∈ ws, w ∈ big ∧ xgw w
/-- a call: F is the callee's meaning, np its arguments (with the receiver), rc and rk the rooms -/
def o_call (F : xP) (np rc rk : Nat) : xOp := fun x k Q => bif Nat.ble np x.2.2.1.length && (Nat.ble (xcs (x.2.2.1.drop np)) 8 && Nat.ble (x.2.2.2.2 + rk) rc) then
    F (x.2.2.1.take np).reverse x.2.2.2.1 (fun r h' n' => match r with
      | .inl none => k (x.1 + 3, x.2.1, x.2.2.1.drop np, h', x.2.2.2.2 + n')
      | .inl (some v) => k (x.1 + 3, x.2.1, v :: x.2.2.1.drop np, h', x.2.2.2.2 + n')
      | .inr X => Q (.inr X) h' (x.2.2.2.2 + n')) else False
section XK
variable {k0 : Nat × Nat} {Ex : Code → State → (Nat → Nat) → (Nat → Prop) → Prop} {cl : List vw_C} {p : Program} {l : Launch} {e : Env} {R : Room} {s : State} {m : MethodId} {args : Array Value} {below : List Frame} {meth : Method} {c : Code} {T : State} {locs : List Loc} {own : String} {Ts : List Cond} {cc : ByteArray} {nL : Nat} {ret : Option FieldType} {D : va_G} {cA : Nat → ClassId} {ρ : Nat → Nat} {A : Nat → Prop}
theorem x_callG (hX : xCx Ex cl own Ts cc nL ret p l s m args meth c D cA ρ A) {Q : xQ} {J : xF → Prop} (hJ : ∀ y, J y → xWW k0 cl R nL p l e s m args below meth c D cA ρ A Q y)
    {PT : Nat → xH → Nat → Prop} {pc n : Nat} {L : xL} {h : xH} {ls : Array Slot} {rest vs : List Value} (X : Stand p l e R s m args below meth c T locs (k0.1 + n) (k0.2 + 6 * n))
    (hl : lv_has ls nL (xla ρ 0 L)) (hP : va_P D cl (xw ρ cA 0 h) T.heap) (hD : va_D A (xw ρ cA 0 h)) (hS : va_S A s.heap T.heap locs) {ig : Instr} (hdg : decode cc pc = .ok (ig, 3))
    {y : MethodName} {mk : MethodId} (hn : T.methodNamed? y = some mk) {ws : List Cond} {rm : Room} {F : xP} (hM : xMet cl y ws rm F) {maxL : Nat} (hcY : ∃ methY cY, T.vm.method? mk = some methY ∧ methY.code = some cY ∧ cY.maxLocals = maxL) (hG : xGood Ts ws)
    (hini : Cond.initialized y.cls ∈ Ts) {rc rk : Nat} (hrc : k0.1 + rc ≤ R.cells) (hrs : k0.2 + 6 * rc ≤ R.slots) (hkc : rm.cells = rk) (hks : rm.slots = 6 * rk) (hfr : rm.frames + 1 ≤ R.frames) (hlo : 8 + (maxL + 11) + rm.locals ≤ R.locals)
    (hst : xcs rest ≤ 8) (hro : n + rk ≤ rc)
    (hF : F vs h (fun r h' n' => match r with
      | .inl none => J (pc + 3, L, rest, h', n + n')
      | .inl (some v) => J (pc + 3, L, v :: rest, h', n + n')
      | .inr Z => PT Z h' n'))
    (hPT : ∀ (Z : Nat) (h' : xH) (n' : Nat) (T' : State) (locs' : List Loc) (a : Nat) (cell : Cell), PT Z h' n' → Stand p l e R s m args below meth c T' locs' (k0.1 + (n + n')) (k0.2 + 6 * (n + n')) → va_P D cl (xw ρ cA 0 h') T'.heap → va_D A (xw ρ cA 0 h') → va_S A s.heap T'.heap locs' → T'.heap[a]? = some cell → (∀ k, cell.vm ≠ .statics k) → s.vm.findClass (xEx Z) = some cell.cls → (∃ k, s.vm.classes[cell.cls]? = some k) →
      ∃ t, Steps p.tables e below ((T'.setTop (F0 m pc ls (rest.map (xv ρ)))).pushFrame (.throwing a)) t ∧ xMQ k0 cl D cA ρ A Q s below t) :
    ∃ t, Steps p.tables e below (doInvoke e (T.setTop (F0 m pc ls (rest.map (xv ρ)))) [] mk (vs.map (xv ρ)).toArray).1 t ∧ xMQ k0 cl D cA ρ A Q s below t := by
  obtain ⟨hx, hb, hml, hr, hlk, hown, hts, hK, hA, hex0, hlo0, hns, hHs⟩ := hX
  have hwT : ∀ w ∈ ws, w.before (vs.map (xv ρ)).toArray T = true := fun w hw => xgw_at X.warmed (hG w hw).2 (hts w (hG w hw).1)
  have hdg' : decode c.code (F0 m pc ls (rest.map (xv ρ))).pc = .ok (ig, 3) := by rw [hb]; exact hdg
  obtain ⟨o, s₂, hsteps, hrun, hend, r, h', n', hq, hO, hP', hD', hF', hW', LL, hsame, hLL⟩ := x_in X (g := F0 m pc ls (rest.map (xv ρ))) rfl (by rw [hml]; exact hl.1) hdg' hn (hM l D cA ρ vs h _ T.heap.size hlo0 hF) (a := (vs.map (xv ρ)).toArray) hwT hcY
    (word_at X.warmed (Or.inl (by first | rfl | simp [Cond.onTables, Cond.keeps, Cond.steady])) (hts _ hini)) hfr (by
      show 2 * 0 + ((rest.map (xv ρ)).map fun v => v.category).sum + (maxL + 11) + rm.locals ≤ R.locals
      rw [xcs_map]; omega) (by rw [hkc]; omega) (by rw [hks]; omega)
    ⟨rfl, rfl, hP, va_K.moved X.warmed.alike hK, hD.weaken (fun _ _ _ _ => trivial), xHs.kept (U := T.calling (F0 m pc ls (rest.map (xv ρ))) mk (vs.map (xv ρ)).toArray) X.warmed.alike (x_stat hS hns) hHs⟩
  have hsub := xA_sub (h := h) (sz := T.heap.size) hD hA (show s.heap.size ≤ T.heap.size from hS.1)
  have hS' : va_S A s.heap s₂.heap (locs ++ LL) := by
    refine ⟨Nat.le_trans hS.1 hF'.1, fun q h1 h2 => ?_, fun q hq => ?_⟩
    · rw [hF'.2 q (Nat.lt_of_lt_of_le h1 hS.1) (fun z => h2 (hsub q z))]
      exact hS.2.1 q h1 h2
    · rcases List.mem_append.mp hq with hq | hq
      · exact hS.2.2 q hq
      · exact hsub _ (hLL q hq)
  have hDA : va_D A (xw ρ cA 0 h') := hD'.weaken fun k q _ z => hsub _ z
  have hcells : k0.2 + 6 * n + (0 + 6 * n') = k0.2 + 6 * (n + n') := by omega
  have hcells1 : k0.1 + n + (0 + n') = k0.1 + (n + n') := by omega
  rcases r with v | Z
  · obtain ⟨v', hv', hk⟩ : ∃ v' : Option Value, o = .returned v' ∧ xWW k0 cl R nL p l e s m args below meth c D cA ρ A Q (pc + 3, L, v.toList ++ rest, h', n + n') ∧ v' = v.map (xv ρ) := by
      cases v with
      | none => exact ⟨none, hO, hJ _ hq, rfl⟩
      | some w => exact ⟨some (xv ρ w), hO, hJ _ hq, rfl⟩
    subst hv'
    obtain ⟨T', X', -, -, ht⟩ := X.outOf (g := F0 m pc ls (rest.map (xv ρ))) rfl hdg' hend hW' hsame
    have hh : T'.heap = s₂.heap := by rw [ht]; rfl
    rw [hcells, hcells1] at X'
    obtain ⟨t, a1, b1⟩ := hk.1 T'.heap (locs ++ LL) ls hl (by rw [hh]; exact hP') hDA (by rw [hh]; exact hS') T' rfl X'
    refine ⟨t, hsteps.trans ?_, b1⟩
    rw [ht, hk.2]
    have e : (v.toList ++ rest).map (xv ρ) = (v.map (xv ρ)).toList ++ rest.map (xv ρ) := by cases v <;> simp
    rw [e] at a1
    exact a1
  · obtain ⟨a, cell, rfl, ha, hv, hc1, kc, hc2⟩ := hO
    obtain ⟨T', X', -, -, ht⟩ := X.outOfThrown (g := F0 m pc ls (rest.map (xv ρ))) rfl hend hW' hsame
    have hh : T'.heap = s₂.heap := by rw [ht]; rfl
    rw [hcells, hcells1] at X'
    obtain ⟨k', hk', -⟩ := (X.warmed.alike).symm.2.2 _ _ hc2
    obtain ⟨t, a1, b1⟩ := hPT Z h' n' T' (locs ++ LL) a cell hq X' (by rw [hh]; exact hP') hDA (by rw [hh]; exact hS') (by rw [hh]; exact ha) hv (by
      have := X.warmed.alike.findClass (xEx Z)
      rw [← this]
      exact hc1) ⟨k', hk'⟩
    exact ⟨t, hsteps.trans (by rw [ht]; exact a1), b1⟩
theorem x_call (hX : xCx Ex cl own Ts cc nL ret p l s m args meth c D cA ρ A) {Q : xQ} {J : xF → Prop} (hJ : ∀ y, J y → xWW k0 cl R nL p l e s m args below meth c D cA ρ A Q y)
    {pc n : Nat} {L : xL} {h : xH} {ls : Array Slot} {rest vs : List Value} (X : Stand p l e R s m args below meth c T locs (k0.1 + n) (k0.2 + 6 * n))
    (hl : lv_has ls nL (xla ρ 0 L)) (hP : va_P D cl (xw ρ cA 0 h) T.heap) (hD : va_D A (xw ρ cA 0 h)) (hS : va_S A s.heap T.heap locs) {ig : Instr} (hdg : decode cc pc = .ok (ig, 3))
    {y : MethodName} {mk : MethodId} (hn : T.methodNamed? y = some mk) {ws : List Cond} {rm : Room} {F : xP} (hM : xMet cl y ws rm F) {maxL : Nat} (hcY : ∃ methY cY, T.vm.method? mk = some methY ∧ methY.code = some cY ∧ cY.maxLocals = maxL) (hG : xGood Ts ws)
    (hini : Cond.initialized y.cls ∈ Ts) (hex : ∀ c s ρ A, Ex c s ρ A → c.exceptionTable.isEmpty = true) {rc rk : Nat} (hrc : k0.1 + rc ≤ R.cells) (hrs : k0.2 + 6 * rc ≤ R.slots) (hkc : rm.cells = rk) (hks : rm.slots = 6 * rk) (hfr : rm.frames + 1 ≤ R.frames) (hlo : 8 + (maxL + 11) + rm.locals ≤ R.locals)
    (hst : xcs rest ≤ 8) (hro : n + rk ≤ rc)
    (hF : F vs h (fun r h' n' => match r with
      | .inl none => J (pc + 3, L, rest, h', n + n')
      | .inl (some v) => J (pc + 3, L, v :: rest, h', n + n')
      | .inr X => Q (.inr X) h' (n + n'))) :
    ∃ t, Steps p.tables e below (doInvoke e (T.setTop (F0 m pc ls (rest.map (xv ρ)))) [] mk (vs.map (xv ρ)).toArray).1 t ∧ xMQ k0 cl D cA ρ A Q s below t := by
  have hlk := hX.2.2.2.2.1
  have hex := hex _ _ _ _ hX.2.2.2.2.2.2.2.2.2.1
  refine x_callG (PT := fun Z h' n' => Q (.inr Z) h' (n + n')) hX hJ X hl hP hD hS hdg hn hM hcY hG hini hrc hrs hkc hks hfr hlo hst hro hF (fun Z h' n' T' locs' a cell hq X' hP' hD' hS' ha hv hc1 hc2 => ?_)
  obtain ⟨h1, h2, h3, h4, h5⟩ := X'.leaveThrown a (g := F0 m pc ls (rest.map (xv ρ))) rfl rfl rfl (fun x hx => by
    have : c.exceptionTable.toList = [] := by
      have := Array.isEmpty_iff.mp hex
      rw [this]
    rw [this] at hx
    cases hx) hlk
  exact ⟨_, h1, .threw a, h2, h3, .inr Z, h', n + n', hq, ⟨a, cell, rfl, ha, hv, hc1, hc2⟩, hP', hD', ⟨hS'.1, fun q z1 z2 => hS'.2.1 q z1 z2⟩, h4, locs', h5, hS'.2.2⟩
end XK

section XJ
variable {k0 : Nat × Nat} {Ex : Code → State → (Nat → Nat) → (Nat → Prop) → Prop} {cl : List vw_C} {own : String} {Ts : List Cond} {cc : ByteArray} {nL : Nat} {ret : Option FieldType} {R : Room} {pc : Nat}
theorem take_app {α : Type} (np : Nat) (st : List α) : (st.take np).reverse.reverse ++ st.drop np = st := by rw [List.reverse_reverse, List.take_append_drop]

theorem s_callS {F : xP} {np rc rk i : Nat} {y : MethodName} {ws ws' : List Cond} {rm : Room} {bytes : ByteArray} {maxL : Nat} {rt : Option FieldType} (hM : xMet cl y ws rm F) (hd : decode cc pc = .ok (.invokestatic i, 3)) (hw : ws = Cond.code y bytes maxL rt :: ws') (hG : xGood Ts ws)
    (hlink : Cond.methodLink own i y ∈ Ts) (hstat : Cond.static y ∈ Ts) (hini : Cond.initialized y.cls ∈ Ts) (hy : y.cls ≠ "java/lang/invoke/MethodHandle" ∧ y.cls ≠ "java/lang/invoke/VarHandle" ∧ (parseMethodDescriptor y.desc).map (fun d => d.parameters.length) = some np)
    (hrc : k0.1 + rc ≤ R.cells ∧ k0.2 + 6 * rc ≤ R.slots ∧ rm.cells = rk ∧ rm.slots = 6 * rk ∧ rm.frames + 1 ≤ R.frames ∧ 8 + (maxL + 11) + rm.locals ≤ R.locals) (hex : ∀ c s ρ A, Ex c s ρ A → c.exceptionTable.isEmpty = true) : xSd k0 Ex cl own Ts cc nL ret R (pc, o_call F np rc rk) := by
  intro p l e s m args below meth c D cA ρ A X Q J x hpc hJ ho H locs ls hl hP hD hS
  obtain ⟨pc', L, st, h, n⟩ := x
  obtain rfl : pc' = pc := hpc
  obtain ⟨h0, ho⟩ := bif_t ho
  rw [Bool.and_eq_true, Bool.and_eq_true] at h0
  dsimp only at h0 ho
  have hlen : (st.take np).length = np := by rw [List.length_take]; exact Nat.min_eq_left (Nat.le_of_ble_eq_true h0.1)
  intro T hT S
  subst hT
  have hts := X.2.2.2.2.2.2.1
  have hcw : Cond.code y bytes maxL rt ∈ ws := by rw [hw]; exact List.mem_cons_self
  have hcode := hts _ (hG _ hcw).1
  obtain ⟨mk, hnamed⟩ := Cond.code_named hcode
  obtain ⟨methM, cM, hmethM, hcM, -, hlM, -, -, -, hsigM⟩ := Cond.code_spec hnamed hcode
  have hstatic : methM.isStatic = true := Cond.static_spec hnamed hmethM (hts _ hstat)
  obtain ⟨kP, hkP, -⟩ := className_of_methodNamed hnamed
  have hinitP : kP.init = .initialized := Cond.initialized_spec (findClass_of_methodNamed hnamed) hkP (hts _ hini)
  have hpl : ((st.take np).reverse.map (xv ρ)).length = methM.sig.parameters.length := by
    have h2 := hy.2.2
    rw [hsigM] at h2
    rw [List.length_map, List.length_reverse, hlen]
    exact (Option.some.inj h2).symm
  obtain ⟨vm₁, X₁, hstep₁⟩ := S.invokestatic X.1 X.2.2.2.2.2.1 (hts _ hlink) hnamed hmethM hstatic hkP hinitP ⟨hy.1, hy.2.1⟩ (g := F0 m pc' ls (st.map (xv ρ))) rfl (argsL := (st.take np).reverse.map (xv ρ)) (rest := (st.drop np).map (xv ρ)) hpl (by
    show st.map (xv ρ) = _
    rw [← List.map_reverse, ← List.map_append, take_app]) (by rw [X.2.1]; exact hd)
  obtain ⟨t, a1, b1⟩ := x_call (T := T.setVm vm₁) X hJ (pc := pc') (ls := ls) (rest := st.drop np) (vs := (st.take np).reverse) X₁ hl hP hD hS hd (X₁.named hnamed) hM ⟨methM, cM, by rw [X₁.warmed.alike.method?]; exact hmethM, hcM, hlM⟩ hG hini hex hrc.1 hrc.2.1 hrc.2.2.1 hrc.2.2.2.1 hrc.2.2.2.2.1 hrc.2.2.2.2.2 (Nat.le_of_ble_eq_true h0.2.1) (Nat.le_of_ble_eq_true h0.2.2) ho
  exact ⟨t, hstep₁ _ fun acts => by rw [doInvoke_state]; exact a1, b1⟩
theorem s_callSN {F : xP} {np rc rk i : Nat} {host : String} {y : MethodName} {ws ws' : List Cond} {rm : Room} {bytes : ByteArray} {maxL : Nat} {rt : Option FieldType} (hM : xMet cl y ws rm F) (hd : decode cc pc = .ok (.invokestatic i, 3)) (hw : ws = Cond.code y bytes maxL rt :: ws') (hG : xGood Ts ws)
    (hlink : Cond.methodLinkNest own i y host ∈ Ts) (hstat : Cond.static y ∈ Ts) (hini : Cond.initialized y.cls ∈ Ts) (hy : y.cls ≠ "java/lang/invoke/MethodHandle" ∧ y.cls ≠ "java/lang/invoke/VarHandle" ∧ (parseMethodDescriptor y.desc).map (fun d => d.parameters.length) = some np)
    (hrc : k0.1 + rc ≤ R.cells ∧ k0.2 + 6 * rc ≤ R.slots ∧ rm.cells = rk ∧ rm.slots = 6 * rk ∧ rm.frames + 1 ≤ R.frames ∧ 8 + (maxL + 11) + rm.locals ≤ R.locals) (hex : ∀ c s ρ A, Ex c s ρ A → c.exceptionTable.isEmpty = true) : xSd k0 Ex cl own Ts cc nL ret R (pc, o_call F np rc rk) := by
  intro p l e s m args below meth c D cA ρ A X Q J x hpc hJ ho H locs ls hl hP hD hS
  obtain ⟨pc', L, st, h, n⟩ := x
  obtain rfl : pc' = pc := hpc
  obtain ⟨h0, ho⟩ := bif_t ho
  rw [Bool.and_eq_true, Bool.and_eq_true] at h0
  dsimp only at h0 ho
  have hlen : (st.take np).length = np := by rw [List.length_take]; exact Nat.min_eq_left (Nat.le_of_ble_eq_true h0.1)
  intro T hT S
  subst hT
  have hts := X.2.2.2.2.2.2.1
  have hcw : Cond.code y bytes maxL rt ∈ ws := by rw [hw]; exact List.mem_cons_self
  have hcode := hts _ (hG _ hcw).1
  obtain ⟨mk, hnamed⟩ := Cond.code_named hcode
  obtain ⟨methM, cM, hmethM, hcM, -, hlM, -, -, -, hsigM⟩ := Cond.code_spec hnamed hcode
  have hstatic : methM.isStatic = true := Cond.static_spec hnamed hmethM (hts _ hstat)
  obtain ⟨kP, hkP, -⟩ := className_of_methodNamed hnamed
  have hinitP : kP.init = .initialized := Cond.initialized_spec (findClass_of_methodNamed hnamed) hkP (hts _ hini)
  have hpl : ((st.take np).reverse.map (xv ρ)).length = methM.sig.parameters.length := by
    have h2 := hy.2.2
    rw [hsigM] at h2
    rw [List.length_map, List.length_reverse, hlen]
    exact (Option.some.inj h2).symm
  obtain ⟨vm₁, X₁, hstep₁⟩ := S.invokestaticNest X.1 X.2.2.2.2.2.1 (hts _ hlink) hnamed hmethM hstatic hkP hinitP ⟨hy.1, hy.2.1⟩ (g := F0 m pc' ls (st.map (xv ρ))) rfl (argsL := (st.take np).reverse.map (xv ρ)) (rest := (st.drop np).map (xv ρ)) hpl (by
    show st.map (xv ρ) = _
    rw [← List.map_reverse, ← List.map_append, take_app]) (by rw [X.2.1]; exact hd)
  obtain ⟨t, a1, b1⟩ := x_call (T := T.setVm vm₁) X hJ (pc := pc') (ls := ls) (rest := st.drop np) (vs := (st.take np).reverse) X₁ hl hP hD hS hd (X₁.named hnamed) hM ⟨methM, cM, by rw [X₁.warmed.alike.method?]; exact hmethM, hcM, hlM⟩ hG hini hex hrc.1 hrc.2.1 hrc.2.2.1 hrc.2.2.2.1 hrc.2.2.2.2.1 hrc.2.2.2.2.2 (Nat.le_of_ble_eq_true h0.2.1) (Nat.le_of_ble_eq_true h0.2.2) ho
  exact ⟨t, hstep₁ _ fun acts => by rw [doInvoke_state]; exact a1, b1⟩
/-- a call on an object: of the kind ci -/
def o_callV (F : xP) (ci np rc rk : Nat) : xOp := fun x k Q => match (x.2.2.1.drop np) with
  | .ref a :: _ => match x.2.2.2.1[a]? with
    | some (.inr (cj, _)) => bif Nat.beq cj ci then o_call F (np + 1) rc rk x k Q else False
    | _ => False
  | _ => False

theorem s_callV {F : xP} {ci np rc rk i : Nat} {C : String} {T0 : u_T} {N : Nat} {y : MethodName} {ws ws' : List Cond} {rm : Room} {bytes : ByteArray} {maxL : Nat} {rt : Option FieldType} (hM : xMet cl y ws rm F) (hd : decode cc pc = .ok (.invokevirtual i, 3)) (hw : ws = Cond.code y bytes maxL rt :: ws') (hG : xGood Ts ws) (hc : cl[ci]? = some (C, T0, N))
    (hlink : Cond.methodLink own i y ∈ Ts) (hinst : Cond.instanceMethod y ∈ Ts) (hsel : Cond.selects C y y ∈ Ts) (hini : Cond.initialized y.cls ∈ Ts) (hy : y.cls ≠ "java/lang/invoke/MethodHandle" ∧ y.cls ≠ "java/lang/invoke/VarHandle" ∧ (parseMethodDescriptor y.desc).map (fun d => d.parameters.length) = some np)
    (hrc : k0.1 + rc ≤ R.cells ∧ k0.2 + 6 * rc ≤ R.slots ∧ rm.cells = rk ∧ rm.slots = 6 * rk ∧ rm.frames + 1 ≤ R.frames ∧ 8 + (maxL + 11) + rm.locals ≤ R.locals) (hex : ∀ c s ρ A, Ex c s ρ A → c.exceptionTable.isEmpty = true) : xSd k0 Ex cl own Ts cc nL ret R (pc, o_callV F ci np rc rk) := by
  intro p l e s m args below meth c D cA ρ A X Q J x hpc hJ ho H locs ls hl hP hD hS
  obtain ⟨pc', L, st, h, n⟩ := x
  obtain rfl : pc' = pc := hpc
  dsimp only [o_callV] at ho
  split at ho
  · rename_i a r0 hdr
    split at ho
    · rename_i cj fs he
      obtain ⟨hcc, ho1⟩ := bif_t ho
      obtain rfl : cj = ci := Nat.eq_of_beq_eq_true hcc
      clear ho
      unfold o_call at ho1
      obtain ⟨h0, ho⟩ := bif_t ho1
      rw [Bool.and_eq_true, Bool.and_eq_true] at h0
      dsimp only at h0 ho
      have hdr1 : st.drop (np + 1) = r0 := by
        rw [← List.drop_drop, hdr]; rfl
      have hlt : np < st.length := Nat.le_of_ble_eq_true h0.1
      have hlen : (st.take np).length = np := by rw [List.length_take]; omega
      have htk : (st.take (np + 1)).reverse = .ref a :: (st.take np).reverse := by
        have e1 : st = st.take np ++ .ref a :: r0 := by rw [← hdr, List.take_append_drop]
        have e2 : st.take (np + 1) = st.take np ++ [.ref a] := by
          conv => lhs; rw [e1]
          rw [List.take_append, List.take_of_length_le (by omega), hlen]
          simp
        rw [e2]; simp
      intro T hT S
      subst hT
      have hts := X.2.2.2.2.2.2.1
      have hcw : Cond.code y bytes maxL rt ∈ ws := by rw [hw]; exact List.mem_cons_self
      have hcode := hts _ (hG _ hcw).1
      obtain ⟨mk, methM, hnamed, hmethM, hstM, habM⟩ := Cond.instanceMethod_spec (hts _ hinst)
      obtain ⟨methM', cM, hmethM', hcM, -, hlM, -, -, -, hsigM⟩ := Cond.code_spec hnamed hcode
      cases hmethM.symm.trans hmethM'
      obtain ⟨c2, r2, m2, q1, q2, q3, q4, kP, hkP, hkPi⟩ := Cond.selects_spec (hts _ hsel)
      obtain ⟨cell, hcell, hclB, hoB⟩ : ∃ cell : Cell, T.heap[ρ a]? = some cell ∧ s.vm.findClass C = some cell.cls ∧ cell.vm.isStatics = false := by
        obtain ⟨r, h1, cell, w1, w2, w3, w4⟩ := hP a _ (xw_at he)
        have hr : r = (C, T0, N) := Option.some.inj (h1.symm.trans hc)
        subst hr
        have hk1 := (X.2.2.2.2.2.2.2.1).1 _ _ hc
        exact ⟨cell, w1, by rw [w2]; exact hk1.2.1, by rw [w3]; rfl⟩
      cases hclB.symm.trans q1
      cases (State.methodFound?_of_named hnamed ⟨hy.1, hy.2.1⟩).symm.trans q2
      cases hnamed.symm.trans q3
      have hselP : selectMethod e.platform s.vm cell.cls mk = .method mk := by rw [Launch.admits_selectMethod S.admits]; exact q4
      have hpl : ((st.take np).reverse.map (xv ρ)).length = methM.sig.parameters.length := by
        have h2 := hy.2.2
        rw [hsigM] at h2
        rw [List.length_map, List.length_reverse, hlen]
        exact (Option.some.inj h2).symm
      obtain ⟨vm₁, X₁, hstep₁⟩ := S.invokevirtual X.1 X.2.2.2.2.2.1 (hts _ hlink) hnamed hmethM hstM hkP hkPi ⟨hy.1, hy.2.1⟩ (a := ρ a) (cell := cell) hcell (fun z q => by rw [q] at hoB; cases hoB) hselP hmethM habM hkP hkPi (g := F0 m pc' ls (st.map (xv ρ))) rfl (argsL := (st.take np).reverse.map (xv ρ)) (rest := (st.drop (np + 1)).map (xv ρ)) hpl (by
        show st.map (xv ρ) = _
        rw [← List.map_reverse, List.reverse_reverse, hdr1]
        conv => lhs; rw [← List.take_append_drop np st, hdr]
        rw [List.map_append]; rfl) (by rw [X.2.1]; exact hd)
      rw [htk] at ho
      obtain ⟨t, a1, b1⟩ := x_call (T := T.setVm vm₁) X hJ (pc := pc') (ls := ls) (rest := st.drop (np + 1)) (vs := .ref a :: (st.take np).reverse) X₁ hl hP hD hS hd (X₁.named hnamed) hM ⟨methM, cM, by rw [X₁.warmed.alike.method?]; exact hmethM, hcM, hlM⟩ hG hini hex hrc.1 hrc.2.1 hrc.2.2.1 hrc.2.2.2.1 hrc.2.2.2.2.1 hrc.2.2.2.2.2 (Nat.le_of_ble_eq_true h0.2.1) (Nat.le_of_ble_eq_true h0.2.2) ho
      exact ⟨t, hstep₁ _ fun acts => by rw [doInvoke_state]; exact a1, b1⟩
    · exact ho.elim
  · exact ho.elim
theorem s_callVN {F : xP} {ci np rc rk i : Nat} {C : String} {T0 : u_T} {N : Nat} {host : String} {y : MethodName} {ws ws' : List Cond} {rm : Room} {bytes : ByteArray} {maxL : Nat} {rt : Option FieldType} (hM : xMet cl y ws rm F) (hd : decode cc pc = .ok (.invokevirtual i, 3)) (hw : ws = Cond.code y bytes maxL rt :: ws') (hG : xGood Ts ws) (hc : cl[ci]? = some (C, T0, N))
    (hlink : Cond.methodLinkNest own i y host ∈ Ts) (hinst : Cond.instanceMethod y ∈ Ts) (hsel : Cond.selects C y y ∈ Ts) (hini : Cond.initialized y.cls ∈ Ts) (hy : y.cls ≠ "java/lang/invoke/MethodHandle" ∧ y.cls ≠ "java/lang/invoke/VarHandle" ∧ (parseMethodDescriptor y.desc).map (fun d => d.parameters.length) = some np)
    (hrc : k0.1 + rc ≤ R.cells ∧ k0.2 + 6 * rc ≤ R.slots ∧ rm.cells = rk ∧ rm.slots = 6 * rk ∧ rm.frames + 1 ≤ R.frames ∧ 8 + (maxL + 11) + rm.locals ≤ R.locals) (hex : ∀ c s ρ A, Ex c s ρ A → c.exceptionTable.isEmpty = true) : xSd k0 Ex cl own Ts cc nL ret R (pc, o_callV F ci np rc rk) := by
  intro p l e s m args below meth c D cA ρ A X Q J x hpc hJ ho H locs ls hl hP hD hS
  obtain ⟨pc', L, st, h, n⟩ := x
  obtain rfl : pc' = pc := hpc
  dsimp only [o_callV] at ho
  split at ho
  · rename_i a r0 hdr
    split at ho
    · rename_i cj fs he
      obtain ⟨hcc, ho1⟩ := bif_t ho
      obtain rfl : cj = ci := Nat.eq_of_beq_eq_true hcc
      clear ho
      unfold o_call at ho1
      obtain ⟨h0, ho⟩ := bif_t ho1
      rw [Bool.and_eq_true, Bool.and_eq_true] at h0
      dsimp only at h0 ho
      have hdr1 : st.drop (np + 1) = r0 := by
        rw [← List.drop_drop, hdr]; rfl
      have hlt : np < st.length := Nat.le_of_ble_eq_true h0.1
      have hlen : (st.take np).length = np := by rw [List.length_take]; omega
      have htk : (st.take (np + 1)).reverse = .ref a :: (st.take np).reverse := by
        have e1 : st = st.take np ++ .ref a :: r0 := by rw [← hdr, List.take_append_drop]
        have e2 : st.take (np + 1) = st.take np ++ [.ref a] := by
          conv => lhs; rw [e1]
          rw [List.take_append, List.take_of_length_le (by omega), hlen]
          simp
        rw [e2]; simp
      intro T hT S
      subst hT
      have hts := X.2.2.2.2.2.2.1
      have hcw : Cond.code y bytes maxL rt ∈ ws := by rw [hw]; exact List.mem_cons_self
      have hcode := hts _ (hG _ hcw).1
      obtain ⟨mk, methM, hnamed, hmethM, hstM, habM⟩ := Cond.instanceMethod_spec (hts _ hinst)
      obtain ⟨methM', cM, hmethM', hcM, -, hlM, -, -, -, hsigM⟩ := Cond.code_spec hnamed hcode
      cases hmethM.symm.trans hmethM'
      obtain ⟨c2, r2, m2, q1, q2, q3, q4, kP, hkP, hkPi⟩ := Cond.selects_spec (hts _ hsel)
      obtain ⟨cell, hcell, hclB, hoB⟩ : ∃ cell : Cell, T.heap[ρ a]? = some cell ∧ s.vm.findClass C = some cell.cls ∧ cell.vm.isStatics = false := by
        obtain ⟨r, h1, cell, w1, w2, w3, w4⟩ := hP a _ (xw_at he)
        have hr : r = (C, T0, N) := Option.some.inj (h1.symm.trans hc)
        subst hr
        have hk1 := (X.2.2.2.2.2.2.2.1).1 _ _ hc
        exact ⟨cell, w1, by rw [w2]; exact hk1.2.1, by rw [w3]; rfl⟩
      cases hclB.symm.trans q1
      cases (State.methodFound?_of_named hnamed ⟨hy.1, hy.2.1⟩).symm.trans q2
      cases hnamed.symm.trans q3
      have hselP : selectMethod e.platform s.vm cell.cls mk = .method mk := by rw [Launch.admits_selectMethod S.admits]; exact q4
      have hpl : ((st.take np).reverse.map (xv ρ)).length = methM.sig.parameters.length := by
        have h2 := hy.2.2
        rw [hsigM] at h2
        rw [List.length_map, List.length_reverse, hlen]
        exact (Option.some.inj h2).symm
      obtain ⟨vm₁, X₁, hstep₁⟩ := S.invokevirtualNest X.1 X.2.2.2.2.2.1 (hts _ hlink) hnamed hmethM hstM hkP hkPi ⟨hy.1, hy.2.1⟩ (a := ρ a) (cell := cell) hcell (fun z q => by rw [q] at hoB; cases hoB) hselP hmethM habM hkP hkPi (g := F0 m pc' ls (st.map (xv ρ))) rfl (argsL := (st.take np).reverse.map (xv ρ)) (rest := (st.drop (np + 1)).map (xv ρ)) hpl (by
        show st.map (xv ρ) = _
        rw [← List.map_reverse, List.reverse_reverse, hdr1]
        conv => lhs; rw [← List.take_append_drop np st, hdr]
        rw [List.map_append]; rfl) (by rw [X.2.1]; exact hd)
      rw [htk] at ho
      obtain ⟨t, a1, b1⟩ := x_call (T := T.setVm vm₁) X hJ (pc := pc') (ls := ls) (rest := st.drop (np + 1)) (vs := .ref a :: (st.take np).reverse) X₁ hl hP hD hS hd (X₁.named hnamed) hM ⟨methM, cM, by rw [X₁.warmed.alike.method?]; exact hmethM, hcM, hlM⟩ hG hini hex hrc.1 hrc.2.1 hrc.2.2.1 hrc.2.2.2.1 hrc.2.2.2.2.1 hrc.2.2.2.2.2 (Nat.le_of_ble_eq_true h0.2.1) (Nat.le_of_ble_eq_true h0.2.2) ho
      exact ⟨t, hstep₁ _ fun acts => by rw [doInvoke_state]; exact a1, b1⟩
    · exact ho.elim
  · exact ho.elim
end XJ
end
section
-- A NEW EXCEPTION IS MADE, WITH ITS MESSAGE, AND THROWN (over the library's laws of Throwable's constructors, launches without stack traces)
def xOwn (own : String) (ic : Nat) (X : String) (j : Nat) (bs : ByteArray) : List Cond := Bundle.throwableAtoms ++ (Bundle.throwableSAtoms ++ (Bundle.passSAtoms X Bundle.rN j bs ++ (Bundle.chainSAtoms Bundle.rN ["java/lang/Exception"] ++
  [.methodLink own ic (Bundle.initS X), .instantiable X 6, .selects X Bundle.tFill0 Bundle.tFill0, .selects X Bundle.tFill Bundle.tFill,
   .lays X Bundle.tN "cause" "Ljava/lang/Throwable;", .lays X Bundle.tN "stackTrace" Bundle.steD, .lays X Bundle.tN "suppressedExceptions" Bundle.listD, .lays X Bundle.tN "detailMessage" "Ljava/lang/String;",
   .isRef (.static Bundle.tN "UNASSIGNED_STACK" Bundle.steD), .isRef (.static Bundle.tN "SUPPRESSED_SENTINEL" Bundle.listD),
   .fieldLink Bundle.tN 198 Bundle.tN "backtrace" "Ljava/lang/Object;", .lays Bundle.tN Bundle.tN "backtrace" "Ljava/lang/Object;", .lays X Bundle.tN "backtrace" "Ljava/lang/Object;"])))
section XT
variable {p : Program} {l : Launch} {e : Env} {R : Room} {s : State} {m₀ : MethodId} {args : Array Value} {below : List Frame} {meth : Method} {c : Code} {W : State} {locs : List Loc} {cells slots : Nat}
set_option maxHeartbeats 1000000 in
theorem x_throw (X : Stand p l e R s m₀ args below meth c W locs cells slots) (hexec : p.tables.exec = Jvm.exec) (htr : e.platform.stackTraces = false) {own cls : String} {ic j : Nat} {bs : ByteArray}
    (hown : s.vm.findClass own = some m₀.cls) (hcls : Bundle.fit cls = true) (k0 : decode bs 0 = .ok (.aload_n 0, 1)) (k1 : decode bs 1 = .ok (.aload_n 1, 1)) (k2 : decode bs 2 = .ok (.invokespecial j, 3)) (k5 : decode bs 5 = .ok (.return_, 1))
    (h : ∀ a ∈ xOwn own ic cls j bs, a.before args s = true)
    (hkeep : ∀ (a : Nat) (cell : Cell), s.heap[a]? = some cell → cell.vm.isStatics = true → W.heap[a]? = some cell)
    {a : Addr} {cX : ClassId} {kX : Class} (hfoundX : s.vm.findClass cls = some cX) (hkX : s.vm.classes[cX]? = some kX) (hcell : W.heap[a]? = some (freshCell cX kX)) (hnew : s.heap.size ≤ a)
    {msg : Value} (hmsg : msg.isRef = true)
    {g : JFrame} (hg : g.method = m₀) (hsize : g.locals.size = c.maxLocals) (hlocked : g.locked = none) (hentered : g.entered = []) {rest : List Value} (hstack : g.stack = msg :: .ref a :: .ref a :: rest)
    (hd6 : decode c.code g.pc = .ok (.invokespecial ic, 3)) (hd9 : decode c.code (g.pc + 3) = .ok (.athrow, 1)) (hout : ∀ x ∈ c.exceptionTable.toList, covers x (g.pc + 3) = false)
    (hRframes : 5 < R.frames) (hRlocals : 2 * g.monitorRoom + ((Value.ref a :: rest).map fun v => v.category).sum + 81 ≤ R.locals) (hlocks : meth.locks = false) :
    ∃ (U : State) (ce : Cell), Steps p.tables e below (W.setTop g) U ∧ U.status = .running ∧ Ended U below (.threw a) ∧ s.WarmedH U.vm ∧ s.sameButNew ({ U with vm := s.vm } : State) locs cells slots ∧
      U.heap[a]? = some ce ∧ ce.cls = cX ∧ ce.vm = .none ∧ U.heap.size = W.heap.size ∧ ∀ q : Nat, q ≠ a → U.heap[q]? = W.heap[q]? := by
  have howns : e.platform.frameOwnsMonitors = true := by rw [X.admits.platform]
  have hfin : e.platform.finalization = false := by rw [X.admits.platform]
  have hpl : e.platform.magicAccessors = ({} : Platform).magicAccessors := by rw [X.admits.platform]
  have a' : ∀ x, x ∈ xOwn own ic cls j bs → x.holds args s none s [] = true := fun x hx => h x hx
  obtain ⟨T, Z0, L, -, Y⟩ := ThrowableC.of_atoms (args := args) howns hfin hpl (fun x hx => h x (by simp [xOwn, hx]))
  obtain ⟨Z, M, LZ, LM, hnZ⟩ := Init0T.ofS_atoms (args := args) hpl L Y (fun x hx => h x (by simp [xOwn, hx]))
  obtain ⟨P2, Ps, hlen, L2, hL, hP2m, hlink2, hlink⟩ := Bundle.chainS (args := args) hpl hnZ ["java/lang/Exception"] Bundle.rN (by decide +kernel) (by intro n hn; rcases List.mem_cons.mp hn with rfl | hn; decide +kernel; cases hn) (fun x hx => h x (by simp only [xOwn, List.mem_append]; exact Or.inr (Or.inr (Or.inr (Or.inl hx)))))
  obtain ⟨P1, L1, hP1m, hP1s⟩ := PassC.ofS_atoms (args := args) (s := s) hpl (X := cls) (Y := Bundle.rN) (Bundle.fit_spec hcls).1 (by decide +kernel) k0 k1 k2 k5 (fun x hx => h x (by simp only [xOwn, List.mem_append]; exact Or.inr (Or.inr (Or.inl hx))))
  have hlink1 : P1.sup = firstOf (Z.m T.toThrowableT) ((P2 :: Ps).map (·.toPassT)) := Option.some.inj (hP1s.symm.trans hP2m)
  have hfound : s.vm.findClass cls = some P1.m.cls := findClass_of_methodNamed hP1m
  cases Option.some.inj (hfoundX.symm.trans hfound)
  obtain ⟨c1, kX', hc1, hk, hord, -, -, hn6⟩ := Cond.instantiable_spec (a' (.instantiable cls 6) (by simp [xOwn]))
  cases Option.some.inj (hc1.symm.trans hfound)
  cases Option.some.inj (hkX.symm.trans hk)
  have hsel0 : selectMethod e.platform s.vm P1.m.cls T.fill0 = .method T.fill0 := by
    obtain ⟨c2, r2, m2, q1, q2, q3, q4, -⟩ := Cond.selects_spec (a' (.selects cls Bundle.tFill0 Bundle.tFill0) (by simp [xOwn]))
    cases Option.some.inj (q1.symm.trans hfound)
    cases Option.some.inj (q2.symm.trans (State.methodFound?_of_named Y.fill0 (by decide)))
    cases Option.some.inj (q3.symm.trans Y.fill0)
    rw [Launch.admits_selectMethod X.admits]; exact q4
  have hselF : selectMethod e.platform s.vm P1.m.cls T.fill = .method T.fill := by
    obtain ⟨c2, r2, m2, q1, q2, q3, q4, -⟩ := Cond.selects_spec (a' (.selects cls Bundle.tFill Bundle.tFill) (by simp [xOwn]))
    cases Option.some.inj (q1.symm.trans hfound)
    cases Option.some.inj (q2.symm.trans (State.methodFound?_of_named Y.fill (by decide)))
    cases Option.some.inj (q3.symm.trans Y.fill)
    rw [Launch.admits_selectMethod X.admits]; exact q4
  obtain ⟨cellS, hcS0, hiss⟩ := Y.statics
  obtain ⟨u0, hu0⟩ := Cond.staticRefV Y.unassigned L.unassignedStatic L.statics hcS0 hiss (a' (.isRef (.static Bundle.tN "UNASSIGNED_STACK" Bundle.steD)) (by simp [xOwn]))
  obtain ⟨sen, hsen⟩ := Cond.staticRefV Y.sentinel L.sentinelStatic L.statics hcS0 hiss (a' (.isRef (.static Bundle.tN "SUPPRESSED_SENTINEL" Bundle.listD)) (by simp [xOwn]))
  obtain ⟨ci198, i198, fB, hk198, hg198, ha198, hsB, -, hnB, htB, hffB⟩ := Cond.ownField (t := .object "java/lang/Object") Y.found L.cls (by decide +kernel) (a' (.fieldLink Bundle.tN 198 Bundle.tN "backtrace" "Ljava/lang/Object;") (by simp [xOwn])) (a' (.lays Bundle.tN Bundle.tN "backtrace" "Ljava/lang/Object;") (by simp [xOwn])) e.platform hpl
  have hcellS : W.heap[T.aS]? = some cellS := hkeep _ _ hcS0 hiss
  have hknownS : cellS.vm ≠ .unknown := by
    intro hu
    rw [hu] at hiss
    cases hiss
  have hneS : T.aS ≠ a := Nat.ne_of_lt (Nat.lt_of_lt_of_le (Array.getElem?_eq_some_iff.mp hcS0).1 hnew)
  obtain ⟨iM, hffM⟩ := Y.msg
  obtain ⟨tyC, dC, hdC, hdnC⟩ := Cond.laysAt hfound hk Y.cause (a' (.lays cls Bundle.tN "cause" "Ljava/lang/Throwable;") (by simp [xOwn]))
  obtain ⟨tyS, dS, hdS, hdnS⟩ := Cond.laysAt hfound hk Y.stack (a' (.lays cls Bundle.tN "stackTrace" Bundle.steD) (by simp [xOwn]))
  obtain ⟨tyP, dP, hdP, hdnP⟩ := Cond.laysAt hfound hk Y.supp (a' (.lays cls Bundle.tN "suppressedExceptions" Bundle.listD) (by simp [xOwn]))
  obtain ⟨tyM, dM, hdM, hdnM⟩ := Cond.laysAt hfound hk hffM (a' (.lays cls Bundle.tN "detailMessage" "Ljava/lang/String;") (by simp [xOwn]))
  obtain ⟨tyB, dB, hdB, hdnB⟩ := Cond.laysAt hfound hk hffB (a' (.lays cls Bundle.tN "backtrace" "Ljava/lang/Object;") (by simp [xOwn]))
  have bC := Cond.laysApart hdB hdC hdnB hdnC (by rw [hnB, Y.causeName]; decide)
  have bS := Cond.laysApart hdB hdS hdnB hdnS (by rw [hnB, Y.stackName]; decide)
  have bP := Cond.laysApart hdB hdP hdnB hdnP (by rw [hnB, Y.suppName]; decide)
  have hskip : SkipFacts T e.platform s (fun u => u) u0 ((preparedCellV T.toThrowableT (freshCell P1.m.cls kX) a u0 sen).withEntry W.cur) :=
    ⟨{ ci198 := ci198, i198 := i198, fBack := fB }, ⟨hk198, hg198, ha198, hsB⟩, by
      have := fresh_default (c := P1.m.cls) tyB
      rw [htB] at this
      simpa [preparedCellV, Cell.setSlot, Cell.withEntry, Array.getElem?_setIfInBounds, bC, bS, bP, bC.symm, bS.symm, bP.symm, defaultValue] using this, fun _ _ => rfl⟩
  obtain ⟨tm, methC, cdC, kC, vm₁, hnC, -, -, -, -, -, -, -, hW₁, st1⟩ := Steps.initColdS (tb := p.tables) (e := e) (below := below) (s := s) (U := W) X.here hexec X.warmed hpl hown (t := Bundle.initS cls) rfl rfl (Bundle.fit_spec hcls).2
    (a' (.methodLink own ic (Bundle.initS cls)) (by simp [xOwn])) (h (.instanceMethod (Bundle.initS cls)) (by simp [xOwn, Bundle.passSAtoms])) (bytes := bs) (maxL := 2) (h (.code (Bundle.initS cls) bs 2 none) (by simp [xOwn, Bundle.passSAtoms]))
    (f := g) hg (a := a) (msg := msg) (rest := .ref a :: rest) hstack hd6
  cases Option.some.inj (hnC.symm.trans hP1m)
  have X₁ := X.noted hW₁
  obtain ⟨vm₂, X₂, st2⟩ := X₁.ctorMessageOffV hexec (g := { g with stack := .ref a :: rest }) hg hsize T L Z LZ M LM (P1 :: P2 :: Ps)
    (fun P hP => by rcases List.mem_cons.mp hP with rfl | hP; exact L1; rcases List.mem_cons.mp hP with rfl | hP; exact L2; exact hL P hP) ⟨hlink1, hlink2, hlink⟩ (u0 := u0) (sen := sen) (self := a) hmsg (cell := freshCell P1.m.cls kX) (cellS := cellS)
    hcell (fun _ => by simp) (by simp) rfl rfl hsel0 hselF hcellS hneS hknownS hu0 hsen
    (Takes.of_laid hk hord tyC (by rw [Y.causeType]; rfl)) (Takes.of_laid hk hord tyS (by rw [Y.stackType]; exact fits_refV_array _ u0)) (Takes.of_laid hk hord tyP (by rw [Y.suppType]; exact fits_refV_object _ sen))
    (Takes.of_laid hk hord tyM (by rw [Y.msgType]; exact fits_refV_object _ ⟨msg, hmsg⟩)) Y.objLocals hskip htr [] hd6
    (by simp only [List.length_cons, hlen, List.length_nil]; omega) (by simp only [List.length_cons, hlen, List.length_nil]; exact hRlocals)
  obtain ⟨hwalk, hrun, hended, hWU, hsame⟩ := X₂.athrowLeaves hexec (g := { g with stack := .ref a :: rest, pc := g.pc + 3 }) hg hlocked hentered hout (a := a) (rest := rest) rfl hd9 hlocks
  have hlt : a < ((W.setVm vm₁).setVm vm₂).heap.size := (Array.getElem?_eq_some_iff.mp hcell).1
  have hU := heapAt_setCell_self (s := (W.setVm vm₁).setVm vm₂) (plainBareV T.toThrowableT (freshCell P1.m.cls kX) a u0 sen msg) hlt
  refine ⟨_, _, st1 _ (fun acts => ?_), hrun, hended, hWU, hsame.weaken (fun y hy hlt' => ?_) (Nat.le_refl _) (Nat.le_refl _), hU, rfl, rfl, ?_, fun q hq => ?_⟩
  · rw [doInvoke_state]
    exact st2 _ hwalk
  · rcases List.mem_append.mp hy with h1 | h1
    · exact h1
    · exfalso
      have hb : y.base = a := by
        simp only [List.mem_cons, List.not_mem_nil, or_false] at h1
        rcases h1 with rfl | rfl | rfl | rfl | rfl <;> rfl
      rw [hb] at hlt'
      exact Nat.not_lt.mpr hnew hlt'
  · exact size_setCell _ _ _
  · show (W.heap.setIfInBounds a _)[q]? = W.heap[q]?
    exact Array.getElem?_setIfInBounds_ne (fun z => hq z.symm)
end XT
end
section
def xHw : List Cond := [.laysStatic "java/lang/Throwable" "UNASSIGNED_STACK" "[Ljava/lang/StackTraceElement;", .isRef (.static "java/lang/Throwable" "UNASSIGNED_STACK" "[Ljava/lang/StackTraceElement;"), .laysStatic "java/lang/Throwable" "SUPPRESSED_SENTINEL" "Ljava/util/List;", .isRef (.static "java/lang/Throwable" "SUPPRESSED_SENTINEL" "Ljava/util/List;")]
theorem xHs_w {s : State} {args : Array Value} (h : xHs s) : ∀ w ∈ xHw, w.before args s = true := by
  have k1 := ls_kept (U := s) (args' := args) (Vm.Alike.refl s.vm) (fun _ _ q _ => q) h.2.1.1
  have k2 := ls_kept (U := s) (args' := args) (Vm.Alike.refl s.vm) (fun _ _ q _ => q) h.2.2.1
  exact List.forall_mem_cons.mpr ⟨k1.1, List.forall_mem_cons.mpr ⟨k1.2 h.2.1.2, List.forall_mem_cons.mpr ⟨k2.1, List.forall_mem_cons.mpr ⟨k2.2 h.2.2.2, fun _ q => absurd q List.not_mem_nil⟩⟩⟩⟩
def o_throw (Z rc : Nat) : xOp := fun x _ Q => match x.2.2.1 with
  | [] => bif Nat.ble (x.2.2.2.2 + 1) rc then Q (.inr Z) x.2.2.2.1 (x.2.2.2.2 + 1) else False
  | _ => False
section XT
variable {k0 : Nat × Nat} {Ex : Code → State → (Nat → Nat) → (Nat → Prop) → Prop} {cl : List vw_C} {own : String} {Ts : List Cond} {cc : ByteArray} {nL : Nat} {ret : Option FieldType} {R : Room} {pc : Nat}
theorem s_throw {Z rc i ik ic j : Nat} {bs : ByteArray} {tx : String} (hd0 : decode cc pc = .ok (.new i, 3)) (hd3 : decode cc (pc + 3) = .ok (.dup, 1)) (hd4 : decode cc (pc + 4) = .ok (.ldc ik, 2)) (hd6 : decode cc (pc + 6) = .ok (.invokespecial ic, 3)) (hd9 : decode cc (pc + 9) = .ok (.athrow, 1))
    (hcl : Cond.classLink own i (xEx Z) ∈ Ts) (hins : Cond.instantiable (xEx Z) 6 ∈ Ts) (hini : Cond.initialized (xEx Z) ∈ Ts) (hstr : Cond.stringRef own ik tx ∈ Ts) (hfit : Bundle.fit (xEx Z) = true) (kd0 : decode bs 0 = .ok (.aload_n 0, 1)) (kd1 : decode bs 1 = .ok (.aload_n 1, 1)) (kd2 : decode bs 2 = .ok (.invokespecial j, 3)) (kd5 : decode bs 5 = .ok (.return_, 1))
    (how : ∀ w ∈ xOwn own ic (xEx Z) j bs, w ∈ Ts ∨ w ∈ xHw) (hrc : k0.1 + rc ≤ R.cells ∧ k0.2 + 6 * rc ≤ R.slots ∧ 5 < R.frames ∧ 82 ≤ R.locals) (hexE : ∀ c s ρ A, Ex c s ρ A → c.exceptionTable.isEmpty = true) : xSd k0 Ex cl own Ts cc nL ret R (pc, o_throw Z rc) := by
  intro p l e s m args below meth c D cA ρ A X Q J x hpc hJ ho H locs ls hl hP hD hS
  obtain ⟨pc', L, st, h, n⟩ := x
  obtain rfl : pc' = pc := hpc
  dsimp only [o_throw] at ho
  split at ho
  · obtain ⟨h1, h2⟩ := bif_t ho
    have hn : n + 1 ≤ rc := Nat.le_of_ble_eq_true h1
    obtain ⟨hx, hb, hml, hr, hlk, hown, hts, hK, hA, hex0, hlo, hns, hHs⟩ := X
    have hex := hexE _ _ _ _ hex0
    refine W.newc hx hb hown (hts _ hcl) (hts _ hins) (hts _ hini) (g := F0 m pc' ls ([].map (xv ρ))) rfl hd0 (by show k0.1 + n + 1 ≤ R.cells; have := hrc.1; omega) (by show k0.2 + 6 * n + 6 ≤ R.slots; have := hrc.2.1; omega) (fun cC kC hf hkC _ _ => ?_)
    refine lv_dup hx hb hd3 rfl ?_
    obtain ⟨_, _, _, q, -, -, -, -, -, hev⟩ := Cond.stringRef_spec hown (hts _ hstr)
    have hts0 := hts
    intro T hT S
    have hsize : ls.size = c.maxLocals := by rw [hml]; exact hl.1
    have st1 := S.ldcString hx hown (hts _ hstr) hev (g := F0 m (pc' + 3 + 1) ls [.ref H.size, .ref H.size]) rfl (by rw [hb]; exact hd4)
    have hs1 : s.heap.size ≤ H.size := hS.1
    have hput : ∀ z : Nat, z < H.size → T.heap[z]? = H[z]? := fun z hz => by rw [hT]; exact Array.getElem?_push_lt hz ▸ by simp [Array.getElem?_push, Nat.ne_of_lt hz]
    have hsz : T.heap.size = H.size + 1 := by rw [hT]; simp
    have hkeep : ∀ (a : Nat) (cell : Cell), s.heap[a]? = some cell → cell.vm.isStatics = true → T.heap[a]? = some cell := fun a cell q1 q2 => by
      have hlt : a < H.size := Nat.lt_of_lt_of_le (Array.getElem?_eq_some_iff.mp q1).1 hs1
      rw [hput a hlt]
      exact x_stat hS hns a cell q1 q2
    obtain ⟨U, ce, e1, e2, e3, e4, e5, e6, e7, e8, e9, e10⟩ := x_throw S hx (hlo e S.admits) (own := own) (cls := xEx Z) hown hfit kd0 kd1 kd2 kd5 (fun w hw => (how w hw).elim (fun q => hts _ q) (fun q => xHs_w hHs _ q)) hkeep (a := H.size) hf hkC (by rw [hT]; simp [freshCell]) hs1 (msg := .ref q) rfl
      (g := F0 m (pc' + 3 + 1 + 2) ls [.ref q, .ref H.size, .ref H.size]) rfl hsize rfl rfl (rest := []) rfl (by rw [hb]; exact hd6) (by rw [hb]; exact hd9) (fun x hx => by
        have : c.exceptionTable.toList = [] := by rw [Array.isEmpty_iff.mp hex]
        rw [this] at hx
        cases hx) hrc.2.2.1 (by show 2 * 0 + (1 + 0) + 81 ≤ R.locals; omega) hlk
    have hU : ∀ z : Nat, z < H.size → U.heap[z]? = H[z]? := fun z hz => by rw [e10 z (Nat.ne_of_lt hz), hput z hz]
    refine ⟨U, st1 U e1, .threw H.size, e2, e3, .inr Z, h, n + 1, h2, ⟨H.size, ce, rfl, e6, (fun k q => by rw [e8] at q; cases q), (by rw [e7]; exact hf), kC, (by rw [e7]; exact hkC)⟩, hP.kept (fun k y hy => hU _ ((hP k y hy).lt)), hD, ⟨by rw [e9, hsz]; omega, fun z q1 q2 => by rw [hU z (Nat.lt_of_lt_of_le q1 hs1)]; exact hS.2.1 z q1 q2⟩, e4, locs, e5, hS.2.2⟩
  · exact ho.elim
def o_max (rc : Nat) : xOp := fun x k _ => match x.2.2.1 with
  | .int b :: .int a :: r => bif Nat.ble (xcs r) 8 && Nat.ble x.2.2.2.2 rc then k (x.1 + 3, x.2.1, .int (if a < b then b else a) :: r, x.2.2.2.1, x.2.2.2.2) else False
  | _ => False
def o_min (rc : Nat) : xOp := fun x k _ => match x.2.2.1 with
  | .int b :: .int a :: r => bif Nat.ble (xcs r) 8 && Nat.ble x.2.2.2.2 rc then k (x.1 + 3, x.2.1, .int (if b < a then b else a) :: r, x.2.2.2.1, x.2.2.2.2) else False
  | _ => False
theorem s_max {i : Nat} (hd : decode cc pc = .ok (.invokestatic i, 3)) (hlink : Cond.methodLink own i Lib.Math.max.name ∈ Ts) (hstat : Cond.static Lib.Math.max.name ∈ Ts) (hini : Cond.initialized "java/lang/Math" ∈ Ts) (hcode : Cond.code Lib.Math.max.name Lib.Math.max.code 2 (some .int) ∈ Ts) (hr : 1 ≤ R.frames ∧ 21 ≤ R.locals ∧ True) {rc : Nat} (hrc : k0.1 + rc ≤ R.cells ∧ k0.2 + 6 * rc ≤ R.slots) : xSd k0 Ex cl own Ts cc nL ret R (pc, o_max rc) := by
  intro p l e s m args below meth c D cA ρ A X Q J x hpc hJ ho H locs ls hl hP hD hS
  obtain ⟨pc', L, st, h, n⟩ := x
  obtain rfl : pc' = pc := hpc
  dsimp only [o_max] at ho
  split at ho
  · rename_i b a r
    obtain ⟨h1, h2⟩ := bif_t ho
    obtain ⟨hx, hb, hml, -, -, hown, hts, -⟩ := X
    rw [Bool.and_eq_true] at h1
    have h3 : xcs r ≤ 8 := Nat.le_of_ble_eq_true h1.1
    have h4 : n ≤ rc := Nat.le_of_ble_eq_true h1.2
    refine va_mmax hx hb (by rw [hml]; exact hl.1.symm) hown (hts _ hlink) (hts _ hstat) (hts _ hini) (hts _ hcode) hr.1 (by rw [xcs_map]; omega) (by show k0.1 + n ≤ R.cells; have := hrc.1; omega) (by show k0.2 + 6 * n ≤ R.slots; have := hrc.2; omega) hd (hJ _ h2 H locs ls hl hP hD hS)
  · exact ho.elim
theorem s_min {i : Nat} (hd : decode cc pc = .ok (.invokestatic i, 3)) (hlink : Cond.methodLink own i Lib.Math.min.name ∈ Ts) (hstat : Cond.static Lib.Math.min.name ∈ Ts) (hini : Cond.initialized "java/lang/Math" ∈ Ts) (hcode : Cond.code Lib.Math.min.name Lib.Math.min.code 2 (some .int) ∈ Ts) (hr : 1 ≤ R.frames ∧ 21 ≤ R.locals ∧ True) {rc : Nat} (hrc : k0.1 + rc ≤ R.cells ∧ k0.2 + 6 * rc ≤ R.slots) : xSd k0 Ex cl own Ts cc nL ret R (pc, o_min rc) := by
  intro p l e s m args below meth c D cA ρ A X Q J x hpc hJ ho H locs ls hl hP hD hS
  obtain ⟨pc', L, st, h, n⟩ := x
  obtain rfl : pc' = pc := hpc
  dsimp only [o_min] at ho
  split at ho
  · rename_i b a r
    obtain ⟨h1, h2⟩ := bif_t ho
    obtain ⟨hx, hb, hml, -, -, hown, hts, -⟩ := X
    rw [Bool.and_eq_true] at h1
    have h3 : xcs r ≤ 8 := Nat.le_of_ble_eq_true h1.1
    have h4 : n ≤ rc := Nat.le_of_ble_eq_true h1.2
    refine va_mmin hx hb (by rw [hml]; exact hl.1.symm) hown (hts _ hlink) (hts _ hstat) (hts _ hini) (hts _ hcode) hr.1 (by rw [xcs_map]; omega) (by show k0.1 + n ≤ R.cells; have := hrc.1; omega) (by show k0.2 + 6 * n ≤ R.slots; have := hrc.2; omega) hd (hJ _ h2 H locs ls hl hP hD hS)
  · exact ho.elim
def o_copyl : xOp := fun x k _ => match x.2.2.1 with
  | .int n :: .int dp :: .ref a :: .int sp :: .ref a0 :: r => match x.2.2.2.1[a0]? with
    | some (.inl (1, (n0, .inr (.inl f)))) => match x.2.2.2.1[a]? with
      | some (.inl (1, (n1, .inr (.inl g)))) => bif Nat.ble (xcs r) 8 then ((¬ sp < 0 ∧ ¬ dp < 0 ∧ ¬ n < 0) ∧ sp.toNatClampNeg + n.toNatClampNeg ≤ n0 ∧ dp.toNatClampNeg + n.toNatClampNeg ≤ n1) ∧ k (x.1 + 3, x.2.1, r, x.2.2.2.1.set a (.inl (1, (n1, .inr (.inl (va_cpy f g sp.toNatClampNeg dp.toNatClampNeg n.toNatClampNeg))))), x.2.2.2.2) else False
      | _ => False
    | _ => False
  | _ => False
theorem s_copyl {i : Nat} (hd : decode cc pc = .ok (.invokestatic i, 3)) (hlink : Cond.methodLink own i arraycopyName ∈ Ts) (hnat : Cond.native arraycopyName ∈ Ts) (hstat : Cond.static arraycopyName ∈ Ts) (hini : Cond.initialized "java/lang/System" ∈ Ts) (hr : 1 ≤ R.frames ∧ 8 + (nativeFrameWords "java/lang/System" "arraycopy" 5 + 11) ≤ R.locals) : xSd k0 Ex cl own Ts cc nL ret R (pc, o_copyl) := by
  intro p l e s m args below meth c D cA ρ A X Q J x hpc hJ ho H locs ls hl hP hD hS
  obtain ⟨pc', L, st, h, n⟩ := x
  obtain rfl : pc' = pc := hpc
  dsimp only [o_copyl] at ho
  split at ho
  · rename_i k dp a sp a0 r
    split at ho
    · rename_i n0 f he0
      split at ho
      · rename_i n1 g he1
        obtain ⟨hxx, ho⟩ := bif_t ho
        obtain ⟨⟨⟨z1, z2, z3⟩, z4, z5⟩, z6⟩ := ho
        obtain ⟨hx, hb, hml, -, -, hown, hts, hK, -⟩ := X
        have h3 : xcs r ≤ 8 := Nat.le_of_ble_eq_true hxx
        refine va_copyl hx hb (by rw [hml]; exact hl.1.symm) hown (hts _ hlink) (hts _ hnat) (hts _ hstat) (hts _ hini) hK hP hD hS a0 a 1 1 (ty := .long) (xw_at he0) (xw_at he1) rfl rfl rfl z1 z2 z3 z4 z5 (fun _ _ => rfl) hr.1 (by rw [xcs_map]; omega) hd (fun H1 locs1 hP1 hD1 hS1 => ?_)
        have e := xw_set0 (ρ := ρ) (cA := cA) h a (.inl (1, (n1, .inr (.inl (va_cpy f g sp.toNatClampNeg dp.toNatClampNeg k.toNatClampNeg)))))
        exact hJ _ z6 H1 locs1 ls hl (by rw [← e]; exact hP1) (by rw [← e]; exact hD1) hS1
      · exact ho.elim
    · exact ho.elim
  · exact ho.elim
end XT
end
section
-- A CALL WHOSE EXCEPTIONS ARE CAUGHT BY NAME: the rows of the exception table are searched, their class constants linked or not
section XH
variable {Q : Handler → Pre} {E : CtlPost} {e : Env} {d : Bool} {acts : List Action} {s : State} {f : JFrame} {a : Addr}
theorem x_goYes {x : ExceptionTableEntry} {t : List ExceptionTableEntry} {c : ClassId} {cell : Cell} (hx : covers x f.pc = true) (h0 : x.catchType ≠ 0) (hl : s.vm.ClassLinks e.platform f.method.cls x.catchType c) (hcell : s.heap[a]? = some cell) (hobj : ∀ k, cell.vm ≠ .statics k)
    (hk : ∃ k, s.vm.classes[cell.cls]? = some k) (hc : ∃ k, s.vm.classes[c]? = some k) (hfit : s.vm.assignable cell.cls c = true) :
    wp (findHandler.go f a (x :: t)) Q E e d acts s ↔ Q (.found x.handlerPc) d acts (s.setVm (s.vm.noted f.method.cls x.catchType (.cls c))) := by
  simp only [covers] at hx
  obtain ⟨ha, ht⟩ := (resolveClass_links e.toSetting hl).op (op := VmOp.resolveClass f.method.cls x.catchType) rfl
  have hal : s.vm.Alike (s.vm.noted f.method.cls x.catchType (.cls c)) := (Vm.Alike.refl s.vm).noted _ _ _
  obtain ⟨k1, hk1⟩ := hk
  obtain ⟨k2, hk2⟩ := hc
  obtain ⟨k1', hk1', -⟩ := hal.2.2 _ _ hk1
  obtain ⟨k2', hk2', -⟩ := hal.2.2 _ _ hk2
  have hfit' : (s.vm.noted f.method.cls x.catchType (.cls c)).assignable cell.cls c = true := by rw [hal.assignable]; exact hfit
  simp [findHandler.go, hx, h0, ha, ht, hcell, hobj, hk1', hk2', hfit', VmOp.dirties, VmOp.acts]
theorem x_goNo {x : ExceptionTableEntry} {t : List ExceptionTableEntry} {c : ClassId} {cell : Cell} (hx : covers x f.pc = true) (h0 : x.catchType ≠ 0) (hl : s.vm.ClassLinks e.platform f.method.cls x.catchType c) (hcell : s.heap[a]? = some cell) (hobj : ∀ k, cell.vm ≠ .statics k)
    (hk : ∃ k, s.vm.classes[cell.cls]? = some k) (hc : ∃ k, s.vm.classes[c]? = some k) (hno : s.vm.assignable cell.cls c = false) :
    wp (findHandler.go f a (x :: t)) Q E e d acts s ↔ wp (findHandler.go f a t) Q E e d acts (s.setVm (s.vm.noted f.method.cls x.catchType (.cls c))) := by
  simp only [covers] at hx
  obtain ⟨ha, ht⟩ := (resolveClass_links e.toSetting hl).op (op := VmOp.resolveClass f.method.cls x.catchType) rfl
  have hal : s.vm.Alike (s.vm.noted f.method.cls x.catchType (.cls c)) := (Vm.Alike.refl s.vm).noted _ _ _
  obtain ⟨k1, hk1⟩ := hk
  obtain ⟨k2, hk2⟩ := hc
  obtain ⟨k1', hk1', -⟩ := hal.2.2 _ _ hk1
  obtain ⟨k2', hk2', -⟩ := hal.2.2 _ _ hk2
  have hno' : (s.vm.noted f.method.cls x.catchType (.cls c)).assignable cell.cls c = false := by rw [hal.assignable]; exact hno
  simp [findHandler.go, hx, h0, ha, ht, hcell, hobj, hk1', hk2', hno', VmOp.dirties, VmOp.acts]
end XH
/-- what the search gives and the tables that it leaves -/
def xFinds (e : Env) (s : State) (f : JFrame) (a : Addr) (hp : Nat) (vm' : Vm) : Prop := ∀ (Q : Handler → Pre) (E : CtlPost) (d : Bool) (acts : List Action), wp (findHandler f a) Q E e d acts s ↔ Q (.found hp) d acts (s.setVm vm')
theorem x_search {e : Env} {s₀ : State} {f : JFrame} {a : Addr} {cell : Cell} (hobj : ∀ k, cell.vm ≠ .statics k) (hk0 : ∃ k, s₀.vm.classes[cell.cls]? = some k) (x : ExceptionTableEntry) (rest : List ExceptionTableEntry) (hx : covers x f.pc = true) (h0 : x.catchType ≠ 0)
    {c : ClassId} (hl : s₀.vm.ClassLinks e.platform f.method.cls x.catchType c) (hfit : s₀.vm.assignable cell.cls c = true) :
    ∀ (pre : List ExceptionTableEntry) (S : State), s₀.WarmedH S.vm → S.heap[a]? = some cell → (∀ y ∈ pre, covers y f.pc = true ∧ y.catchType ≠ 0 ∧ ∃ c, s₀.vm.ClassLinks e.platform f.method.cls y.catchType c ∧ s₀.vm.assignable cell.cls c = false) →
      ∃ vm', s₀.WarmedH vm' ∧ ∀ (Q : Handler → Pre) (E : CtlPost) (d : Bool) (acts : List Action), wp (findHandler.go f a (pre ++ x :: rest)) Q E e d acts S ↔ Q (.found x.handlerPc) d acts (S.setVm vm') := by
  obtain ⟨k0, hk0⟩ := hk0
  intro pre
  induction pre with
  | nil =>
    intro S hW hcell _
    obtain ⟨k0', hk0', -⟩ := hW.alike.2.2 _ _ hk0
    obtain ⟨dk, _, _, kt, hd, _, _, _, _, hkt, _, hcold⟩ := hl.here
    obtain ⟨kt', hkt', -⟩ := hW.alike.2.2 _ _ hkt
    refine ⟨_, hW.noted hd hcold (State.rightAt_cls hl), fun Q E d acts => ?_⟩
    rw [List.nil_append]
    exact x_goYes hx h0 (hW.classLinks hl) hcell hobj ⟨k0', hk0'⟩ ⟨kt', hkt'⟩ (by rw [hW.alike.assignable]; exact hfit)
  | cons y ys ih =>
    intro S hW hcell hpass
    obtain ⟨k0', hk0', -⟩ := hW.alike.2.2 _ _ hk0
    obtain ⟨hcov, hy0, c', hl', hno⟩ := hpass y (List.mem_cons_self ..)
    obtain ⟨dk, _, _, kt, hd, _, _, _, _, hkt, _, hcold⟩ := hl'.here
    obtain ⟨kt', hkt', -⟩ := hW.alike.2.2 _ _ hkt
    obtain ⟨vm', hW', hq⟩ := ih (S.setVm (S.vm.noted f.method.cls y.catchType (.cls c'))) (hW.noted hd hcold (State.rightAt_cls hl')) hcell (fun z hz => hpass z (List.mem_cons_of_mem _ hz))
    refine ⟨vm', hW', fun Q E d acts => ?_⟩
    rw [List.cons_append, x_goNo hcov hy0 (hW.classLinks hl') hcell hobj ⟨k0', hk0'⟩ ⟨kt', hkt'⟩ (by rw [hW.alike.assignable]; exact hno)]
    exact hq Q E d acts
theorem x_catchStep {e : Env} {s : State} {a : Addr} {f : JFrame} {r : List Frame} {pc : Nat} {vm' : Vm} (hfind : xFinds e s f a pc vm') :
    (stepThrowing e s a (.java f :: r)).Is ((s.setVm vm').setFrames (.java { f with pc := pc, stack := [.ref a] } :: r)) [] := by
  simp only [stepThrowing, searchFrame, vmDo]
  generalize hr : Sem.go _ e false [] s = res
  obtain ⟨as, rfl, ha⟩ := Sem.eq_ok_of hr (a := Handler.found pc) (s' := s.setVm vm') (acts' := []) (by simp [hfind _ _ _ _])
  exact ⟨rfl, ha⟩
theorem x_caught {tb : Tables} {e : Env} {s target : State} {g : JFrame} {c : Code} {below : List Frame} {a : Addr} (h : At s g.method c below) {pc : Nat} {vm' : Vm}
    (hfind : xFinds e ((s.setTop g).pushFrame (.throwing a)) g a pc vm') (hrest : Steps tb e below ((s.setVm vm').setTop { g with pc := pc, stack := [.ref a] }) target) :
    Steps tb e below ((s.setTop g).pushFrame (.throwing a)) target := by
  obtain ⟨hgo, hw⟩ := h.throwing a
  refine Steps.head hgo hw ?_
  rw [stepThread_throwing (frames_entered h.top _), (x_catchStep (s := (s.setTop g).pushFrame (.throwing a)) hfind).1]
  obtain ⟨g₀, hg⟩ := Option.isSome_iff_exists.mp h.top
  obtain ⟨r, hr⟩ := State.topJava?_eq_some.mp hg
  have hr' : (s.setVm vm').frames = .java g₀ :: r := hr
  have hsf : ∀ (u : State) (F G : List Frame), ((u.setFrames F).setVm vm').setFrames G = (u.setVm vm').setFrames G := fun u F G => by
    have h1 : (u.setFrames F).setVm vm' = (u.setVm vm').setFrames F := rfl
    rw [h1, State.setFrames_setFrames]
  rw [State.setTop_of_frames _ hr'] at hrest
  rw [hr, List.tail_cons, State.pushFrame, hsf, State.setTop_of_frames _ hr, hsf]
  exact hrest
/-- the method's own table of handlers -/
def xEh (hh : List (Nat × Nat × Nat × Nat)) : Code → State → (Nat → Nat) → (Nat → Prop) → Prop := fun c _ _ _ => c.exceptionTable.toList.map (fun h => (h.startPc, h.endPc, h.handlerPc, h.catchType)) = hh
/-- what catches the exception Z at pc: an entry behind entries of other classes; its handler stores the exception, and answers a number -/
def xHand (own : String) (Ts : List Cond) (cc : ByteArray) (nL pc : Nat) (hh : List (Nat × Nat × Nat × Nat)) (Z : Nat) (v : Int32) : Prop :=
  ∃ (pre : List (Nat × Nat × Nat × Nat)) (q : Nat × Nat × Nat × Nat) (rest : List (Nat × Nat × Nat × Nat)), hh = pre ++ q :: rest ∧ (q.1 ≤ pc ∧ pc < q.2.1) ∧ q.2.2.2 ≠ 0 ∧ Cond.classLink own q.2.2.2 (xEx Z) ∈ Ts ∧ Cond.castable (xEx Z) (xEx Z) ∈ Ts ∧
    (∀ y ∈ pre, (y.1 ≤ pc ∧ pc < y.2.1) ∧ y.2.2.2 ≠ 0 ∧ ∃ Z', Cond.classLink own y.2.2.2 (xEx Z') ∈ Ts ∧ Cond.not (.castable (xEx Z) (xEx Z')) ∈ xNC) ∧
    ∃ z : Int, Int32.ofInt z = v ∧ ((∃ i, i < nL ∧ decode cc q.2.2.1 = .ok (.astore i, 2) ∧ decode cc (q.2.2.1 + 2) = .ok (.iconst z, 1) ∧ decode cc (q.2.2.1 + 3) = .ok (.ireturn, 1)) ∨
      ∃ i : Fin 4, i.val < nL ∧ decode cc q.2.2.1 = .ok (.astore_n i, 1) ∧ decode cc (q.2.2.1 + 1) = .ok (.iconst z, 1) ∧ decode cc (q.2.2.1 + 2) = .ok (.ireturn, 1))
def o_callH (F : xP) (ci np rc rk : Nat) (hs : Nat → Option Int32) : xOp := fun x k Q => match (x.2.2.1.drop np) with
  | .ref a :: _ => match x.2.2.2.1[a]? with
    | some (.inr (cj, _)) => bif Nat.beq cj ci && (Nat.ble (np + 1) x.2.2.1.length && (Nat.ble (xcs (x.2.2.1.drop (np + 1))) 8 && Nat.ble (x.2.2.2.2 + rk) rc)) then
      F (x.2.2.1.take (np + 1)).reverse x.2.2.2.1 (fun r h' n' => match r with
        | .inl none => k (x.1 + 3, x.2.1, x.2.2.1.drop (np + 1), h', x.2.2.2.2 + n')
        | .inl (some v) => k (x.1 + 3, x.2.1, v :: x.2.2.1.drop (np + 1), h', x.2.2.2.2 + n')
        | .inr Z => match hs Z with
          | some v => Q (.inl (some (.int v))) h' (x.2.2.2.2 + n')
          | none => False) else False
    | _ => False
  | _ => False
section XI
variable {k0 : Nat × Nat} {cl : List vw_C} {p : Program} {l : Launch} {e : Env} {R : Room} {s : State} {m : MethodId} {args : Array Value} {below : List Frame} {meth : Method} {c : Code} {T : State} {locs : List Loc} {own : String} {Ts : List Cond} {cc : ByteArray} {nL : Nat} {D : va_G} {cA : Nat → ClassId} {ρ : Nat → Nat} {A : Nat → Prop} {hh : List (Nat × Nat × Nat × Nat)}
/-- from the throw to the handler's answer -/
theorem x_hand (hX : xCx (xEh hh) cl own Ts cc nL (some .int) p l s m args meth c D cA ρ A) {Q : xQ} {pc n : Nat} {h : xH} {ls : Array Slot} {L : List (Nat × Value)} {rest : List Value} {Z : Nat} {v : Int32} (X : Stand p l e R s m args below meth c T locs (k0.1 + n) (k0.2 + 6 * n))
    (hl : lv_has ls nL L) (hP : va_P D cl (xw ρ cA 0 h) T.heap) (hD : va_D A (xw ρ cA 0 h)) (hS : va_S A s.heap T.heap locs) {a : Addr} {cell : Cell} (ha : T.heap[a]? = some cell) (hv : ∀ k, cell.vm ≠ .statics k) (hc1 : s.vm.findClass (xEx Z) = some cell.cls) (hc2 : ∃ k, s.vm.classes[cell.cls]? = some k)
    (hH : xHand own Ts cc nL pc hh Z v) (hQ : Q (.inl (some (.int v))) h n) : ∃ t, Steps p.tables e below ((T.setTop (F0 m pc ls rest)).pushFrame (.throwing a)) t ∧ xMQ k0 cl D cA ρ A Q s below t := by
  obtain ⟨hx, hb, hml, hr, hlk, hown, hts, hK, hA, hex, hlo0, hns, hHs⟩ := hX
  obtain ⟨pre, q, rs, e1, hcov, hq0, hlink, hcast, hpre, z, hz, hdec⟩ := hH
  have hpl : e.platform.magicAccessors = ({} : Platform).magicAccessors := by rw [X.admits.platform]
  have e2 : c.exceptionTable.toList.map (fun h => (h.startPc, h.endPc, h.handlerPc, h.catchType)) = pre ++ q :: rs := hex.trans e1
  obtain ⟨l1, l2, e3, e4, e5⟩ := List.map_eq_append_iff.mp e2
  obtain ⟨x, l3, e6, e7, e8⟩ := List.map_eq_cons_iff.mp e5
  subst e6
  have hx1 : x.startPc = q.1 := by rw [← e7]
  have hx2 : x.endPc = q.2.1 := by rw [← e7]
  have hx3 : x.handlerPc = q.2.2.1 := by rw [← e7]
  have hx4 : x.catchType = q.2.2.2 := by rw [← e7]
  obtain ⟨cT, hcT, hclT⟩ := Cond.classLink_spec hown (by rw [hx4]; exact hts _ hlink : (Cond.classLink own x.catchType (xEx Z)).before args s = true) e.platform hpl
  have ecT : cT = cell.cls := Option.some.inj (hcT.symm.trans hc1)
  subst ecT
  obtain ⟨c3, c4, hc3, hc4, hasg⟩ := Cond.castable_spec (hts _ hcast)
  have ec3 : c3 = cell.cls := Option.some.inj (hc3.symm.trans hc1)
  have ec4 : c4 = cell.cls := Option.some.inj (hc4.symm.trans hc1)
  subst ec3
  rw [ec4] at hasg
  have hcov' : covers x (F0 m pc ls rest).pc = true := by simp [covers, hx1, hx2, hcov]
  obtain ⟨vm', hW', hfind⟩ := x_search (e := e) (s₀ := s) (f := F0 m pc ls rest) (a := a) (cell := cell) hv hc2 x l3 hcov' (by rw [hx4]; exact hq0) (c := cell.cls) hclT hasg l1 ((T.setTop (F0 m pc ls rest)).pushFrame (.throwing a)) X.warmed ha (fun y hy => by
    have hm : (y.startPc, y.endPc, y.handlerPc, y.catchType) ∈ pre := by rw [← e4]; exact List.mem_map_of_mem hy
    obtain ⟨w1, w2, Z', w3, w4⟩ := hpre _ hm
    obtain ⟨c', hc', hcl'⟩ := Cond.classLink_spec hown (hts _ w3) e.platform hpl
    refine ⟨by simp [covers, w1], w2, c', hcl', ?_⟩
    have hno := hHs.1 _ w4
    have hvv := Cond.holds_not_iff.mp hno
    simp only [Cond.value, hc1, hc'] at hvv
    exact Option.some.inj hvv)
  have hF : xFinds e ((T.setTop (F0 m pc ls rest)).pushFrame (.throwing a)) (F0 m pc ls rest) a q.2.2.1 vm' := fun Q E d acts => by
    rw [W.findHandler_eq (meth := meth) (code := c) X.method' X.code, e3, hfind Q E d acts, hx3]
  have X2 := X.noted hW'
  have key : W p l e R s m args below meth c T.heap locs (k0.1 + n) (k0.2 + 6 * n) (xMQ k0 cl D cA ρ A Q s below) (F0 m q.2.2.1 ls [.ref a]) := by
    rcases hdec with ⟨i, hi, d1, d2, d3⟩ | ⟨i, hi, d1, d2, d3⟩
    · refine lv_astore hx hb d1 hl hi rfl (fun ls' _ => ?_)
      refine lv_iconst hx hb d2 hz ?_
      exact W.mono (W.iret (v := v) (free := A) hx hb hr (fun t ht hW => ⟨rfl, ht, hW⟩) hS.2.2 d3 hlk) (fun t ht => xret (v := some (.int v)) hQ hP hD hS ht)
    · refine lv_astore_n hx hb d1 rfl hl hi rfl (fun ls' _ => ?_)
      refine lv_iconst hx hb d2 hz ?_
      exact W.mono (W.iret (v := v) (free := A) hx hb hr (fun t ht hW => ⟨rfl, ht, hW⟩) hS.2.2 d3 hlk) (fun t ht => xret (v := some (.int v)) hQ hP hD hS ht)
  obtain ⟨t, a1, b1⟩ := key (T.setVm vm') rfl X2
  exact ⟨t, x_caught (g := F0 m pc ls rest) X.here hF a1, b1⟩
end XI
section XJ
variable {k0 : Nat × Nat} {cl : List vw_C} {own : String} {Ts : List Cond} {cc : ByteArray} {nL : Nat} {R : Room} {pc : Nat} {hh : List (Nat × Nat × Nat × Nat)}
theorem s_callH {F : xP} {ci np rc rk i : Nat} {hs : Nat → Option Int32} {C : String} {T0 : u_T} {N : Nat} {y : MethodName} {ws ws' : List Cond} {rm : Room} {bytes : ByteArray} {maxL : Nat} {rt : Option FieldType} (hM : xMet cl y ws rm F) (hd : decode cc pc = .ok (.invokevirtual i, 3)) (hw : ws = Cond.code y bytes maxL rt :: ws') (hG : xGood Ts ws) (hc : cl[ci]? = some (C, T0, N))
    (hlink : Cond.methodLink own i y ∈ Ts) (hinst : Cond.instanceMethod y ∈ Ts) (hsel : Cond.selects C y y ∈ Ts) (hini : Cond.initialized y.cls ∈ Ts) (hy : y.cls ≠ "java/lang/invoke/MethodHandle" ∧ y.cls ≠ "java/lang/invoke/VarHandle" ∧ (parseMethodDescriptor y.desc).map (fun d => d.parameters.length) = some np)
    (hrc : k0.1 + rc ≤ R.cells ∧ k0.2 + 6 * rc ≤ R.slots ∧ rm.cells = rk ∧ rm.slots = 6 * rk ∧ rm.frames + 1 ≤ R.frames ∧ 8 + (maxL + 11) + rm.locals ≤ R.locals) (hH : ∀ Z v, hs Z = some v → xHand own Ts cc nL pc hh Z v) : xSd k0 (xEh hh) cl own Ts cc nL (some .int) R (pc, o_callH F ci np rc rk hs) := by
  intro p l e s m args below meth c D cA ρ A X Q J x hpc hJ ho H locs ls hl hP hD hS
  obtain ⟨pc', L, st, h, n⟩ := x
  obtain rfl : pc' = pc := hpc
  dsimp only [o_callH] at ho
  split at ho
  · rename_i a r0 hdr
    split at ho
    · rename_i cj fs he
      obtain ⟨h00, ho1⟩ := bif_t ho
      clear ho
      rw [Bool.and_eq_true, Bool.and_eq_true, Bool.and_eq_true] at h00
      obtain ⟨hcc, h0⟩ := h00
      obtain rfl : cj = ci := Nat.eq_of_beq_eq_true hcc
      have ho := ho1
      clear ho1
      have hdr1 : st.drop (np + 1) = r0 := by
        rw [← List.drop_drop, hdr]; rfl
      have hlt : np < st.length := Nat.le_of_ble_eq_true h0.1
      have hlen : (st.take np).length = np := by rw [List.length_take]; omega
      have htk : (st.take (np + 1)).reverse = .ref a :: (st.take np).reverse := by
        have e1 : st = st.take np ++ .ref a :: r0 := by rw [← hdr, List.take_append_drop]
        have e2 : st.take (np + 1) = st.take np ++ [.ref a] := by
          conv => lhs; rw [e1]
          rw [List.take_append, List.take_of_length_le (by omega), hlen]
          simp
        rw [e2]; simp
      intro T hT S
      subst hT
      have hts := X.2.2.2.2.2.2.1
      have hcw : Cond.code y bytes maxL rt ∈ ws := by rw [hw]; exact List.mem_cons_self
      have hcode := hts _ (hG _ hcw).1
      obtain ⟨mk, methM, hnamed, hmethM, hstM, habM⟩ := Cond.instanceMethod_spec (hts _ hinst)
      obtain ⟨methM', cM, hmethM', hcM, -, hlM, -, -, -, hsigM⟩ := Cond.code_spec hnamed hcode
      cases hmethM.symm.trans hmethM'
      obtain ⟨c2, r2, m2, q1, q2, q3, q4, kP, hkP, hkPi⟩ := Cond.selects_spec (hts _ hsel)
      obtain ⟨cell, hcell, hclB, hoB⟩ : ∃ cell : Cell, T.heap[ρ a]? = some cell ∧ s.vm.findClass C = some cell.cls ∧ cell.vm.isStatics = false := by
        obtain ⟨r, h1, cell, w1, w2, w3, w4⟩ := hP a _ (xw_at he)
        have hr : r = (C, T0, N) := Option.some.inj (h1.symm.trans hc)
        subst hr
        have hk1 := (X.2.2.2.2.2.2.2.1).1 _ _ hc
        exact ⟨cell, w1, by rw [w2]; exact hk1.2.1, by rw [w3]; rfl⟩
      cases hclB.symm.trans q1
      cases (State.methodFound?_of_named hnamed ⟨hy.1, hy.2.1⟩).symm.trans q2
      cases hnamed.symm.trans q3
      have hselP : selectMethod e.platform s.vm cell.cls mk = .method mk := by rw [Launch.admits_selectMethod S.admits]; exact q4
      have hpl : ((st.take np).reverse.map (xv ρ)).length = methM.sig.parameters.length := by
        have h2 := hy.2.2
        rw [hsigM] at h2
        rw [List.length_map, List.length_reverse, hlen]
        exact (Option.some.inj h2).symm
      obtain ⟨vm₁, X₁, hstep₁⟩ := S.invokevirtual X.1 X.2.2.2.2.2.1 (hts _ hlink) hnamed hmethM hstM hkP hkPi ⟨hy.1, hy.2.1⟩ (a := ρ a) (cell := cell) hcell (fun z q => by rw [q] at hoB; cases hoB) hselP hmethM habM hkP hkPi (g := F0 m pc' ls (st.map (xv ρ))) rfl (argsL := (st.take np).reverse.map (xv ρ)) (rest := (st.drop (np + 1)).map (xv ρ)) hpl (by
        show st.map (xv ρ) = _
        rw [← List.map_reverse, List.reverse_reverse, hdr1]
        conv => lhs; rw [← List.take_append_drop np st, hdr]
        rw [List.map_append]; rfl) (by rw [X.2.1]; exact hd)
      rw [htk] at ho
      obtain ⟨t, a1, b1⟩ := x_callG (PT := fun Z h' n' => match hs Z with | some v => Q (.inl (some (.int v))) h' (n + n') | none => False) (T := T.setVm vm₁) X hJ (pc := pc') (ls := ls) (rest := st.drop (np + 1)) (vs := .ref a :: (st.take np).reverse) X₁ hl hP hD hS hd (X₁.named hnamed) hM ⟨methM, cM, by rw [X₁.warmed.alike.method?]; exact hmethM, hcM, hlM⟩ hG hini hrc.1 hrc.2.1 hrc.2.2.1 hrc.2.2.2.1 hrc.2.2.2.2.1 hrc.2.2.2.2.2 (Nat.le_of_ble_eq_true h0.2.1) (Nat.le_of_ble_eq_true h0.2.2) ho (fun Z h' n' T' locs' a cell hq X' hP' hD' hS' ha hv hc1 hc2 => by
        cases hz : hs Z with
        | none => rw [hz] at hq; exact hq.elim
        | some v => rw [hz] at hq; exact x_hand X X' hl hP' hD' hS' ha hv hc1 hc2 (hH Z v hz) hq)
      exact ⟨t, hstep₁ _ fun acts => by rw [doInvoke_state]; exact a1, b1⟩
    · exact ho.elim
  · exact ho.elim
end XJ
theorem xMet.ofW {cl : List vw_C} {y : MethodName} {ws ws' : List Cond} {rm : Room} {cc : ByteArray} {nL : Nat} {ret : Option FieldType} {hh : List (Nat × Nat × Nat × Nat)} {tb : xT} (hy : plainName y.cls = true) (hw : ws = Cond.codeWith y cc nL ret hh :: ws') (hv : ∀ q ∈ tb, xSd (0, 0) (xEh hh) cl y.cls ws cc nL ret rm q) : xMet cl y ws rm (xRun tb nL) := by
  intro l D cA ρ vs h Q sz hlo hF
  refine MetFree.of_bodyS (code := cc) (maxLocals := nL) (ret := ret) hy ?_ ?_
  · intro args s m hh2 hn
    obtain ⟨m', meth, c, h0, h1, h2, h3, h4, -, h5, h6, -⟩ := Cond.codeWith_spec (atoms_spec (ws := ws) hh2 _ (by rw [hw]; exact List.mem_cons_self))
    have : m' = m := Option.some.inj (h0.symm.trans hn)
    subst this
    exact ⟨meth, c, h1, h2, h3, h4, h5, h6⟩
  · intro p e s m args below meth c s₁ B hml hP _
    obtain ⟨rfl, hsz, hP, hK, hD0, hHs⟩ := hP
    subst hsz
    have hh0 : s₁.heap = s.heap := by rw [B.state]; rfl
    have hts := atoms_spec (ws := ws) B.pre
    have hcw : Cond.codeWith y cc nL ret hh ∈ ws := by rw [hw]; exact List.mem_cons_self
    obtain ⟨m', meth', c', h0, h1, h2, -, -, h5, -, -, -⟩ := Cond.codeWith_spec (hts _ hcw)
    have e0 : m' = m := Option.some.inj (h0.symm.trans B.named)
    subst e0
    cases B.method.symm.trans h1
    cases (Stand.of_body B).code.symm.trans h2
    have hX : xCx (xEh hh) cl y.cls ws cc nL ret p l s m' (vs.map (xv ρ)).toArray meth c D cA ρ (xA ρ h.length s.heap.size) :=
      ⟨B.exec, B.bytes, hml, B.returns, B.notSynchronized, findClass_of_methodNamed B.named, hts, hK, fun q hq => Or.inr hq, h5, hlo, x_ns hP, hHs⟩
    have hl := lv_entry (vs.map (xv ρ)) (n := nL) (by rw [xen_len]; exact hF.1)
    have hk := xSd.all (l := l) (e := e) (below := below) (ρ := ρ) hv hX hF.2 s.heap [] _ (by rw [xen_la]; exact hl) hP (xD_A hD0) va_S.rf
    obtain ⟨t, a1, o, b1, b2, b3⟩ := hk s₁ hh0 (Stand.of_body B)
    exact ⟨t, o, by rw [lg_entry_eq]; exact a1, b1, b2, b3⟩
end
