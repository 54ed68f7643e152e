def xHw : List Cond := [.laysStatic "java/lang/Throwable" "UNASSIGNED_STACK" "[Ljava/lang/StackTraceElement;", .isRef (.static "java/lang/Throwable" "UNASSIGNED_STACK" "[Ljava/lang/StackTraceElement;"), .laysStatic "java/lang/Throwable" "SUPPRESSED_SENTINEL" "Ljava/util/List;", .isRef (.static "java/lang/Throwable" "SUPPRESSED_SENTINEL" "Ljava/util/List;")]
theorem xHs_w {s : State} {args : Array Value} (h : xHs s) : ∀ w ∈ xHw, w.before args s = true := by
  have k1 := ls_kept (U := s) (args' := args) (Vm.Alike.refl s.vm) (fun _ _ q _ => q) h.2.1.1
  have k2 := ls_kept (U := s) (args' := args) (Vm.Alike.refl s.vm) (fun _ _ q _ => q) h.2.2.1
  exact List.forall_mem_cons.mpr ⟨k1.1, List.forall_mem_cons.mpr ⟨k1.2 h.2.1.2, List.forall_mem_cons.mpr ⟨k2.1, List.forall_mem_cons.mpr ⟨k2.2 h.2.2.2, fun _ q => absurd q List.not_mem_nil⟩⟩⟩⟩
def o_throw (Z rc : Nat) : xOp := fun x _ Q => match x.2.2.1 with
  | [] => bif Nat.ble (x.2.2.2.2 + 1) rc then Q (.inr Z) x.2.2.2.1 (x.2.2.2.2 + 1) else False
  | _ => False
section XT
variable {k0 : Nat × Nat} {Ex : Code → State → (Nat → Nat) → (Nat → Prop) → Prop} {cl : List vw_C} {own : String} {Ts : List Cond} {cc : ByteArray} {nL : Nat} {ret : Option FieldType} {R : Room} {pc : Nat}
theorem s_throw {Z rc i ik ic j : Nat} {bs : ByteArray} {tx : String} (hd0 : decode cc pc = .ok (.new i, 3)) (hd3 : decode cc (pc + 3) = .ok (.dup, 1)) (hd4 : decode cc (pc + 4) = .ok (.ldc ik, 2)) (hd6 : decode cc (pc + 6) = .ok (.invokespecial ic, 3)) (hd9 : decode cc (pc + 9) = .ok (.athrow, 1))
    (hcl : Cond.classLink own i (xEx Z) ∈ Ts) (hins : Cond.instantiable (xEx Z) 6 ∈ Ts) (hini : Cond.initialized (xEx Z) ∈ Ts) (hstr : Cond.stringRef own ik tx ∈ Ts) (hfit : Bundle.fit (xEx Z) = true) (kd0 : decode bs 0 = .ok (.aload_n 0, 1)) (kd1 : decode bs 1 = .ok (.aload_n 1, 1)) (kd2 : decode bs 2 = .ok (.invokespecial j, 3)) (kd5 : decode bs 5 = .ok (.return_, 1))
    (how : ∀ w ∈ xOwn own ic (xEx Z) j bs, w ∈ Ts ∨ w ∈ xHw) (hrc : k0.1 + rc ≤ R.cells ∧ k0.2 + 6 * rc ≤ R.slots ∧ 5 < R.frames ∧ 82 ≤ R.locals) (hexE : ∀ c s ρ A, Ex c s ρ A → c.exceptionTable.isEmpty = true) : xSd k0 Ex cl own Ts cc nL ret R (pc, o_throw Z rc) := by
  intro p l e s m args below meth c D cA ρ A X Q J x hpc hJ ho H locs ls hl hP hD hS
  obtain ⟨pc', L, st, h, n⟩ := x
  obtain rfl : pc' = pc := hpc
  dsimp only [o_throw] at ho
  split at ho
  · obtain ⟨h1, h2⟩ := bif_t ho
    have hn : n + 1 ≤ rc := Nat.le_of_ble_eq_true h1
    obtain ⟨hx, hb, hml, hr, hlk, hown, hts, hK, hA, hex0, hlo, hns, hHs⟩ := X
    have hex := hexE _ _ _ _ hex0
    refine W.newc hx hb hown (hts _ hcl) (hts _ hins) (hts _ hini) (g := F0 m pc' ls ([].map (xv ρ))) rfl hd0 (by show k0.1 + n + 1 ≤ R.cells; have := hrc.1; omega) (by show k0.2 + 6 * n + 6 ≤ R.slots; have := hrc.2.1; omega) (fun cC kC hf hkC _ _ => ?_)
    refine lv_dup hx hb hd3 rfl ?_
    obtain ⟨_, _, _, q, -, -, -, -, -, hev⟩ := Cond.stringRef_spec hown (hts _ hstr)
    have hts0 := hts
    intro T hT S
    have hsize : ls.size = c.maxLocals := by rw [hml]; exact hl.1
    have st1 := S.ldcString hx hown (hts _ hstr) hev (g := F0 m (pc' + 3 + 1) ls [.ref H.size, .ref H.size]) rfl (by rw [hb]; exact hd4)
    have hs1 : s.heap.size ≤ H.size := hS.1
    have hput : ∀ z : Nat, z < H.size → T.heap[z]? = H[z]? := fun z hz => by rw [hT]; exact Array.getElem?_push_lt hz ▸ by simp [Array.getElem?_push, Nat.ne_of_lt hz]
    have hsz : T.heap.size = H.size + 1 := by rw [hT]; simp
    have hkeep : ∀ (a : Nat) (cell : Cell), s.heap[a]? = some cell → cell.vm.isStatics = true → T.heap[a]? = some cell := fun a cell q1 q2 => by
      have hlt : a < H.size := Nat.lt_of_lt_of_le (Array.getElem?_eq_some_iff.mp q1).1 hs1
      rw [hput a hlt]
      exact x_stat hS hns a cell q1 q2
    obtain ⟨U, ce, e1, e2, e3, e4, e5, e6, e7, e8, e9, e10⟩ := x_throw S hx (hlo e S.admits) (own := own) (cls := xEx Z) hown hfit kd0 kd1 kd2 kd5 (fun w hw => (how w hw).elim (fun q => hts _ q) (fun q => xHs_w hHs _ q)) hkeep (a := H.size) hf hkC (by rw [hT]; simp [freshCell]) hs1 (msg := .ref q) rfl
      (g := F0 m (pc' + 3 + 1 + 2) ls [.ref q, .ref H.size, .ref H.size]) rfl hsize rfl rfl (rest := []) rfl (by rw [hb]; exact hd6) (by rw [hb]; exact hd9) (fun x hx => by
        have : c.exceptionTable.toList = [] := by rw [Array.isEmpty_iff.mp hex]
        rw [this] at hx
        cases hx) hrc.2.2.1 (by show 2 * 0 + (1 + 0) + 81 ≤ R.locals; omega) hlk
    have hU : ∀ z : Nat, z < H.size → U.heap[z]? = H[z]? := fun z hz => by rw [e10 z (Nat.ne_of_lt hz), hput z hz]
    refine ⟨U, st1 U e1, .threw H.size, e2, e3, .inr Z, h, n + 1, h2, ⟨H.size, ce, rfl, e6, (fun k q => by rw [e8] at q; cases q), (by rw [e7]; exact hf), kC, (by rw [e7]; exact hkC)⟩, hP.kept (fun k y hy => hU _ ((hP k y hy).lt)), hD, ⟨by rw [e9, hsz]; omega, fun z q1 q2 => by rw [hU z (Nat.lt_of_lt_of_le q1 hs1)]; exact hS.2.1 z q1 q2⟩, e4, locs, e5, hS.2.2⟩
  · exact ho.elim
def o_max (rc : Nat) : xOp := fun x k _ => match x.2.2.1 with
  | .int b :: .int a :: r => bif Nat.ble (xcs r) 8 && Nat.ble x.2.2.2.2 rc then k (x.1 + 3, x.2.1, .int (if a < b then b else a) :: r, x.2.2.2.1, x.2.2.2.2) else False
  | _ => False
def o_min (rc : Nat) : xOp := fun x k _ => match x.2.2.1 with
  | .int b :: .int a :: r => bif Nat.ble (xcs r) 8 && Nat.ble x.2.2.2.2 rc then k (x.1 + 3, x.2.1, .int (if b < a then b else a) :: r, x.2.2.2.1, x.2.2.2.2) else False
  | _ => False
theorem s_max {i : Nat} (hd : decode cc pc = .ok (.invokestatic i, 3)) (hlink : Cond.methodLink own i Lib.Math.max.name ∈ Ts) (hstat : Cond.static Lib.Math.max.name ∈ Ts) (hini : Cond.initialized "java/lang/Math" ∈ Ts) (hcode : Cond.code Lib.Math.max.name Lib.Math.max.code 2 (some .int) ∈ Ts) (hr : 1 ≤ R.frames ∧ 21 ≤ R.locals ∧ True) {rc : Nat} (hrc : k0.1 + rc ≤ R.cells ∧ k0.2 + 6 * rc ≤ R.slots) : xSd k0 Ex cl own Ts cc nL ret R (pc, o_max rc) := by
  intro p l e s m args below meth c D cA ρ A X Q J x hpc hJ ho H locs ls hl hP hD hS
  obtain ⟨pc', L, st, h, n⟩ := x
  obtain rfl : pc' = pc := hpc
  dsimp only [o_max] at ho
  split at ho
  · rename_i b a r
    obtain ⟨h1, h2⟩ := bif_t ho
    obtain ⟨hx, hb, hml, -, -, hown, hts, -⟩ := X
    rw [Bool.and_eq_true] at h1
    have h3 : xcs r ≤ 8 := Nat.le_of_ble_eq_true h1.1
    have h4 : n ≤ rc := Nat.le_of_ble_eq_true h1.2
    refine va_mmax hx hb (by rw [hml]; exact hl.1.symm) hown (hts _ hlink) (hts _ hstat) (hts _ hini) (hts _ hcode) hr.1 (by rw [xcs_map]; omega) (by show k0.1 + n ≤ R.cells; have := hrc.1; omega) (by show k0.2 + 6 * n ≤ R.slots; have := hrc.2; omega) hd (hJ _ h2 H locs ls hl hP hD hS)
  · exact ho.elim
theorem s_min {i : Nat} (hd : decode cc pc = .ok (.invokestatic i, 3)) (hlink : Cond.methodLink own i Lib.Math.min.name ∈ Ts) (hstat : Cond.static Lib.Math.min.name ∈ Ts) (hini : Cond.initialized "java/lang/Math" ∈ Ts) (hcode : Cond.code Lib.Math.min.name Lib.Math.min.code 2 (some .int) ∈ Ts) (hr : 1 ≤ R.frames ∧ 21 ≤ R.locals ∧ True) {rc : Nat} (hrc : k0.1 + rc ≤ R.cells ∧ k0.2 + 6 * rc ≤ R.slots) : xSd k0 Ex cl own Ts cc nL ret R (pc, o_min rc) := by
  intro p l e s m args below meth c D cA ρ A X Q J x hpc hJ ho H locs ls hl hP hD hS
  obtain ⟨pc', L, st, h, n⟩ := x
  obtain rfl : pc' = pc := hpc
  dsimp only [o_min] at ho
  split at ho
  · rename_i b a r
    obtain ⟨h1, h2⟩ := bif_t ho
    obtain ⟨hx, hb, hml, -, -, hown, hts, -⟩ := X
    rw [Bool.and_eq_true] at h1
    have h3 : xcs r ≤ 8 := Nat.le_of_ble_eq_true h1.1
    have h4 : n ≤ rc := Nat.le_of_ble_eq_true h1.2
    refine va_mmin hx hb (by rw [hml]; exact hl.1.symm) hown (hts _ hlink) (hts _ hstat) (hts _ hini) (hts _ hcode) hr.1 (by rw [xcs_map]; omega) (by show k0.1 + n ≤ R.cells; have := hrc.1; omega) (by show k0.2 + 6 * n ≤ R.slots; have := hrc.2; omega) hd (hJ _ h2 H locs ls hl hP hD hS)
  · exact ho.elim
def o_copyl : xOp := fun x k _ => match x.2.2.1 with
  | .int n :: .int dp :: .ref a :: .int sp :: .ref a0 :: r => match x.2.2.2.1[a0]? with
    | some (.inl (1, (n0, .inr (.inl f)))) => match x.2.2.2.1[a]? with
      | some (.inl (1, (n1, .inr (.inl g)))) => bif Nat.ble (xcs r) 8 then ((¬ sp < 0 ∧ ¬ dp < 0 ∧ ¬ n < 0) ∧ sp.toNatClampNeg + n.toNatClampNeg ≤ n0 ∧ dp.toNatClampNeg + n.toNatClampNeg ≤ n1) ∧ k (x.1 + 3, x.2.1, r, x.2.2.2.1.set a (.inl (1, (n1, .inr (.inl (va_cpy f g sp.toNatClampNeg dp.toNatClampNeg n.toNatClampNeg))))), x.2.2.2.2) else False
      | _ => False
    | _ => False
  | _ => False
theorem s_copyl {i : Nat} (hd : decode cc pc = .ok (.invokestatic i, 3)) (hlink : Cond.methodLink own i arraycopyName ∈ Ts) (hnat : Cond.native arraycopyName ∈ Ts) (hstat : Cond.static arraycopyName ∈ Ts) (hini : Cond.initialized "java/lang/System" ∈ Ts) (hr : 1 ≤ R.frames ∧ 8 + (nativeFrameWords "java/lang/System" "arraycopy" 5 + 11) ≤ R.locals) : xSd k0 Ex cl own Ts cc nL ret R (pc, o_copyl) := by
  intro p l e s m args below meth c D cA ρ A X Q J x hpc hJ ho H locs ls hl hP hD hS
  obtain ⟨pc', L, st, h, n⟩ := x
  obtain rfl : pc' = pc := hpc
  dsimp only [o_copyl] at ho
  split at ho
  · rename_i k dp a sp a0 r
    split at ho
    · rename_i n0 f he0
      split at ho
      · rename_i n1 g he1
        obtain ⟨hxx, ho⟩ := bif_t ho
        obtain ⟨⟨⟨z1, z2, z3⟩, z4, z5⟩, z6⟩ := ho
        obtain ⟨hx, hb, hml, -, -, hown, hts, hK, -⟩ := X
        have h3 : xcs r ≤ 8 := Nat.le_of_ble_eq_true hxx
        refine va_copyl hx hb (by rw [hml]; exact hl.1.symm) hown (hts _ hlink) (hts _ hnat) (hts _ hstat) (hts _ hini) hK hP hD hS a0 a 1 1 (ty := .long) (xw_at he0) (xw_at he1) rfl rfl rfl z1 z2 z3 z4 z5 (fun _ _ => rfl) hr.1 (by rw [xcs_map]; omega) hd (fun H1 locs1 hP1 hD1 hS1 => ?_)
        have e := xw_set0 (ρ := ρ) (cA := cA) h a (.inl (1, (n1, .inr (.inl (va_cpy f g sp.toNatClampNeg dp.toNatClampNeg k.toNatClampNeg)))))
        exact hJ _ z6 H1 locs1 ls hl (by rw [← e]; exact hP1) (by rw [← e]; exact hD1) hS1
      · exact ho.elim
    · exact ho.elim
  · exact ho.elim
end XT
