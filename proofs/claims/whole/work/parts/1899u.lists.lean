-- files as lists
def rd (f : Nat → Int32) : Nat → Nat → List Int32
  | _, 0 => []
  | o, k + 1 => f o :: rd f (o + 1) k
theorem rd_len (f : Nat → Int32) : ∀ (k o : Nat), (rd f o k).length = k
  | 0, o => rfl
  | k + 1, o => by unfold rd; rw [List.length_cons, rd_len f k (o + 1)]
theorem rd_add (f : Nat → Int32) : ∀ (a b o : Nat), rd f o (a + b) = rd f o a ++ rd f (o + a) b
  | 0, b, o => by rw [Nat.zero_add]; rfl
  | a + 1, b, o => by
    rw [show a + 1 + b = (a + b) + 1 by omega]
    show f o :: rd f (o + 1) (a + b) = (f o :: rd f (o + 1) a) ++ rd f (o + (a + 1)) b
    rw [rd_add f a b (o + 1), show o + 1 + a = o + (a + 1) by omega]
    rfl
theorem rd_1 (f : Nat → Int32) (o : Nat) : rd f o 1 = [f o] := rfl
theorem rd_eq {f g : Nat → Int32} : ∀ (k o p : Nat), (∀ i, i < k → f (o + i) = g (p + i)) → rd f o k = rd g p k
  | 0, o, p, h => rfl
  | k + 1, o, p, h => by
    unfold rd
    rw [show f o = g p from h 0 (by omega), rd_eq k (o + 1) (p + 1) (fun i hi => by rw [show o + 1 + i = o + (i + 1) by omega, show p + 1 + i = p + (i + 1) by omega]; exact h (i + 1) (by omega))]
theorem rd_at {f g : Nat → Int32} : ∀ (k o p : Nat), rd f o k = rd g p k → ∀ i, i < k → f (o + i) = g (p + i)
  | 0, o, p, h, i, hi => by omega
  | k + 1, o, p, h, i, hi => by
    unfold rd at h
    obtain ⟨h1, h2⟩ := List.cons.inj h
    cases i with
    | zero => exact h1
    | succ i =>
      have := rd_at k (o + 1) (p + 1) h2 i (by omega)
      rw [show o + 1 + i = o + (i + 1) by omega, show p + 1 + i = p + (i + 1) by omega] at this
      exact this
theorem rd_out {f : Nat → Int32} {j o k : Nat} {v : Int32} (h : j < o ∨ o + k ≤ j) : rd (upd f j v) o k = rd f o k :=
  rd_eq k o o (fun i hi => pk_un (by omega))
theorem rd_snoc {f : Nat → Int32} {k : Nat} {v : Int32} : rd (upd f k v) 0 (k + 1) = rd f 0 k ++ [v] := by
  rw [rd_add, rd_out (Or.inr (by omega)), Nat.zero_add]
  show _ ++ [upd f k v k] = _
  rw [pk_us]
theorem rd_pre {f : Nat → Int32} {X Y : List Int32} {o : Nat} (h : rd f o (X.length + Y.length) = X ++ Y) : rd f o X.length = X ∧ rd f (o + X.length) Y.length = Y := by
  rw [rd_add] at h
  exact List.append_inj h (rd_len _ _ _)
/-- the texts of a pool, each with its length ahead -/
def fl : List (List Int32) → List Int32
  | [] => []
  | x :: p => (nI x.length :: x) ++ fl p
theorem fl_app : ∀ (p q : List (List Int32)), fl (p ++ q) = fl p ++ fl q
  | [], q => rfl
  | x :: p, q => by
    show (nI x.length :: x) ++ fl (p ++ q) = _
    rw [fl_app p q, ← List.append_assoc]
    rfl
theorem fl_1 (x : List Int32) : fl [x] = nI x.length :: x := by
  show (nI x.length :: x) ++ [] = _
  rw [List.append_nil]
/-- the place of a text, or how many there are -/
def kn (x : List Int32) : List (List Int32) → Nat
  | [] => 0
  | y :: p => if y = x then 0 else kn x p + 1
theorem kn_le (x : List Int32) : ∀ p, kn x p ≤ p.length
  | [] => Nat.le_refl 0
  | y :: p => by
    unfold kn
    have := kn_le x p
    rw [List.length_cons]
    split <;> omega
def addP (p : List (List Int32)) (x : List Int32) : List (List Int32) := if kn x p < p.length then p else p ++ [x]
/-- the text i of a pool: what is ahead of it, itself, what is behind -/
theorem pl_split {p : List (List Int32)} {i : Nat} (h : i < p.length) : p = p.take i ++ p[i] :: p.drop (i + 1) := by
  rw [List.getElem_cons_drop, List.take_append_drop]
theorem fl_split {p : List (List Int32)} {i : Nat} (h : i < p.length) : fl p = fl (p.take i) ++ ((nI p[i].length :: p[i]) ++ fl (p.drop (i + 1))) := by
  conv => lhs; rw [pl_split h]
  rw [fl_app]
  rfl
theorem kn_step {x : List Int32} : ∀ {p : List (List Int32)} {i : Nat} (h : i < p.length), i ≤ kn x p → (p[i] = x ↔ kn x p = i)
  | y :: p, 0, h, hi => by
    show y = x ↔ kn x (y :: p) = 0
    unfold kn
    by_cases w : y = x
    · rw [if_pos w]; exact ⟨fun _ => rfl, fun _ => w⟩
    · rw [if_neg w]; exact ⟨fun z => absurd z w, fun z => by omega⟩
  | y :: p, i + 1, h, hi => by
    have w : ¬ y = x := fun w => by unfold kn at hi; rw [if_pos w] at hi; omega
    unfold kn at hi ⊢
    rw [if_neg w] at hi ⊢
    have hl : i < p.length := by rw [List.length_cons] at h; omega
    have := kn_step (x := x) hl (by omega)
    rw [List.getElem_cons_succ]
    exact this.trans ⟨fun z => by omega, fun z => by omega⟩
/-- the characters of a text -/
def tx (t : Int64) : List Int32 := rd (fun i => tch t (nI i)) 0 (tlen t)
/-- a descriptor written out -/
def dxF (N : Nat → Int64) (d : Int64) : Nat → Nat → List Int32
  | _, 0 => []
  | i, k + 1 => (if cdg (tch d (nI i)) 8 = true then (76 :: tx (N (tch d (nI i) - 48).toNatClampNeg)) ++ [59] else [tch d (nI i)]) ++ dxF N d (i + 1) k
def dx (N : Nat → Int64) (d : Int64) : List Int32 := dxF N d 0 (tlen d)
theorem tx_len (t : Int64) : (tx t).length = tlen t := rd_len _ _ _
/-- the state of a writer: row l/b, waiting k/p, texts t/s -/
abbrev WS (l b k p t s : Nat) (I : Nat → Int32) (A : Nat → Nat → Int32) (pl : List (List Int32)) (bh : List Int32) (z : Int32) (u : Nat) : Prop :=
  (I l = nI (2 + (fl pl).length) ∧ 2 + (fl pl).length ≤ u ∧ rd (A b) 0 (2 + (fl pl).length) = 202 :: z :: fl pl) ∧ (I k = nI bh.length ∧ rd (A p) 0 bh.length = bh) ∧ (I t = nI pl.length ∧ ∀ i, i < pl.length → A s (i + 1) = nI (2 + (fl (pl.take i)).length))
/-- nothing else has changed -/
abbrev kp (l b k p t s : Nat) (I I' : Nat → Int32) (A A' : Nat → Nat → Int32) : Prop :=
  (∀ j, ¬ (j = l ∨ j = k ∨ j = t) → I' j = I j) ∧ (∀ j, ¬ (j = b ∨ j = p ∨ j = s) → A' j = A j)
theorem kp_refl {l b k p t s : Nat} {I : Nat → Int32} {A : Nat → Nat → Int32} : kp l b k p t s I I A A := ⟨fun _ _ => rfl, fun _ _ => rfl⟩
theorem kp_trans {l b k p t s : Nat} {I I' I'' : Nat → Int32} {A A' A'' : Nat → Nat → Int32} (h : kp l b k p t s I I' A A') (h' : kp l b k p t s I' I'' A' A'') : kp l b k p t s I I'' A A'' :=
  ⟨fun j hj => (h'.1 j hj).trans (h.1 j hj), fun j hj => (h'.2 j hj).trans (h.2 j hj)⟩
theorem up_n {α : Type} {I : Nat → α} {k j : Nat} {x : α} (h : ¬ j = k) : va_up I k x j = I j := if_neg h
theorem up_k {α : Type} {I : Nat → α} {k : Nat} {x : α} : va_up I k x k = x := if_pos rfl
theorem fl_take_le (p : List (List Int32)) (i : Nat) : (fl (p.take i)).length ≤ (fl p).length := by
  have := fl_app (p.take i) (p.drop i)
  rw [List.take_append_drop] at this
  rw [this, List.length_append]
  omega
/-- is text i of the pool the one that was written behind it? -/
theorem same_text {f : Nat → Int32} {pl : List (List Int32)} {x : List Int32} {i L : Nat} (hi : i < pl.length) (hL : L = 2 + (fl pl).length) (hb : L + 1 + x.length < 2 ^ 31) {a z : Int32} (h : rd f 0 (L + (1 + x.length)) = (a :: z :: fl pl) ++ (nI x.length :: x)) : (rd f (2 + (fl (pl.take i)).length) (x.length + 1) = rd f L (x.length + 1)) ↔ pl[i] = x := by
  have h2 := rd_pre (X := a :: z :: fl pl) (Y := nI x.length :: x) (by rw [List.length_cons, List.length_cons, List.length_cons, show (fl pl).length + 1 + 1 + (x.length + 1) = L + (1 + x.length) by omega]; exact h)
  rw [List.length_cons, List.length_cons, show 0 + ((fl pl).length + 1 + 1) = L by omega, List.length_cons] at h2
  rw [h2.2]
  have h3 : rd f 0 (L + (1 + x.length)) = ((a :: z :: fl (pl.take i)) ++ ((nI pl[i].length :: pl[i]) ++ (fl (pl.drop (i + 1)) ++ (nI x.length :: x)))) := by
    rw [h]
    conv => lhs; rw [fl_split hi]
    simp only [List.cons_append, List.append_assoc]
  have hlen := congrArg List.length h3
  rw [rd_len] at hlen
  have h4 := rd_pre (X := a :: z :: fl (pl.take i)) (Y := (nI pl[i].length :: pl[i]) ++ (fl (pl.drop (i + 1)) ++ (nI x.length :: x))) (by rw [← List.length_append, ← hlen]; exact h3)
  rw [List.length_cons, List.length_cons, show 0 + ((fl (pl.take i)).length + 1 + 1) = 2 + (fl (pl.take i)).length by omega] at h4
  have h5 := h4.2
  rw [List.length_append] at h5
  have h6 := rd_pre h5
  rw [List.length_cons] at h6
  rw [List.length_append, List.length_append, List.length_cons, List.length_cons, List.length_cons, List.length_append, List.length_cons] at hlen
  constructor
  · intro q
    have e0 : f (2 + (fl (pl.take i)).length) = nI pl[i].length := (List.cons.inj h6.1).1
    have e1 : f (2 + (fl (pl.take i)).length) = nI x.length := (List.cons.inj q).1
    have e2 : pl[i].length = x.length := (nI_eq (by omega) (by omega)).mp (e0.symm.trans e1)
    rw [e2] at h6
    exact (List.cons.inj (h6.1.symm.trans q)).2
  · intro q
    rw [q] at h6
    exact h6.1
/-- the same while a text is being written: v stands where its length will be -/
abbrev WO (l b k p t s : Nat) (I : Nat → Int32) (A : Nat → Nat → Int32) (pl : List (List Int32)) (bh : List Int32) (z v : Int32) (y : List Int32) : Prop :=
  (I l = nI (2 + (fl pl).length + (1 + y.length)) ∧ rd (A b) 0 (2 + (fl pl).length + (1 + y.length)) = (202 :: z :: fl pl) ++ (v :: y)) ∧ (I k = nI bh.length ∧ rd (A p) 0 bh.length = bh) ∧ (I t = nI (pl.length + 1) ∧ (∀ i, i < pl.length → A s (i + 1) = nI (2 + (fl (pl.take i)).length)) ∧ A s (pl.length + 1) = nI (2 + (fl pl).length))
