-- reading texts, in lists
def pkF (c : Nat → Int32) : Nat → Nat → Int64 → Int64
  | 0, _, r => r
  | k + 1, i, r => pkF c k (i + 1) (r ||| xshl (c i).toInt64 ((8 : Int32) * nI i))
theorem pkF_snoc (c : Nat → Int32) : ∀ (k i : Nat) (r : Int64), pkF c (k + 1) i r = pkF c k i r ||| xshl (c (i + k)).toInt64 ((8 : Int32) * nI (i + k))
  | 0, i, r => rfl
  | k + 1, i, r => by
    show pkF c (k + 1) (i + 1) (r ||| xshl (c i).toInt64 ((8 : Int32) * nI i)) = pkF c k (i + 1) (r ||| xshl (c i).toInt64 ((8 : Int32) * nI i)) ||| _
    rw [pkF_snoc c k (i + 1), show i + 1 + k = i + (k + 1) by omega]
theorem pkF_wp {c : Nat → Int32} {t : Int64} : ∀ (k i : Nat) (r : Int64), (∀ j, i ≤ j → j < i + k → c j = tch t (nI j)) → pkF c k i r = wpF t 0 0 k i r
  | 0, i, r, h => rfl
  | k + 1, i, r, h => by
    unfold pkF wpF
    rw [Nat.zero_add, h i (by omega) (by omega), pkF_wp k (i + 1) _ (fun j h1 h2 => h j (by omega) (by omega))]
theorem pkF_ext {c c' : Nat → Int32} : ∀ (k i : Nat) (r : Int64), (∀ j, i ≤ j → j < i + k → c j = c' j) → pkF c k i r = pkF c' k i r
  | 0, i, r, h => rfl
  | k + 1, i, r, h => by
    unfold pkF
    rw [h i (by omega) (by omega), pkF_ext k (i + 1) _ (fun j h1 h2 => h j (by omega) (by omega))]
theorem wpF_snoc (d : Int64) (k : Nat) : wpF d 0 0 (k + 1) 0 0 = wpF d 0 0 k 0 0 ||| xshl (tch d (nI k)).toInt64 ((8 : Int32) * nI k) := by
  rw [← pkF_wp (c := fun j => tch d (nI j)) (k + 1) 0 0 (fun _ _ _ => rfl), ← pkF_wp (c := fun j => tch d (nI j)) k 0 0 (fun _ _ _ => rfl), pkF_snoc, Nat.zero_add]
theorem wpF_all (t : Int64) : wpF t 0 0 (tlen t) 0 0 = t := by
  have h8 := tlen_le t
  refine i64_ext fun b hb => ?_
  show tb _ b = tb _ b
  rw [wpF_bit t 0 0 _ _ _ (by omega) (by omega) b hb, tb_0, Bool.false_or, show 8 * 0 + b - 8 * 0 = b by omega]
  by_cases q : b < 8 * tlen t
  · rw [decide_eq_true (by omega : 8 * (0 + 0) ≤ b), decide_eq_true (by omega : b < 8 * (0 + 0 + tlen t)), Bool.true_and, Bool.true_and]
  · rw [decide_eq_false (by omega : ¬ b < 8 * (0 + 0 + tlen t)), Bool.and_false, Bool.false_and, tb_hi (fun i h1 h2 => (tlenF_spec t 8).1 i h1 h2) (by have : tlenF t 8 = tlen t := rfl; omega)]
theorem rd_inj_len {f g : Nat → Int32} {k l o p : Nat} (h : rd f o k = rd g p l) : k = l := by
  have := congrArg List.length h
  rw [rd_len, rd_len] at this
  exact this
theorem pk_tx {c : Nat → Int32} {l : Nat} {t : Int64} (h : rd c 0 l = tx t) : pkF c l 0 0 = t := by
  have e : l = tlen t := rd_inj_len h
  subst e
  rw [pkF_wp (t := t) _ 0 0 (fun j _ hj => by have := rd_at _ _ _ h j (by omega); rw [Nat.zero_add] at this; exact this)]
  exact wpF_all t
theorem and255 : ∀ k, k < 256 → nI k &&& 255 = nI k := by decide +kernel
/-- how far a descriptor has been read: i characters of the text, z of the descriptor -/
abbrev dI (c : Nat → Int32) (l : Nat) (N : Nat → Int64) (n i z : Nat) (r : Int64) : Prop :=
  ∀ d, dOne d (n + 1) = true → rd c 0 l = dx N d → z ≤ tlen d ∧ i ≤ l ∧ rd c i (l - i) = dxF N d z (tlen d - z) ∧ r = wpF d 0 0 z 0 0
theorem dI_0 {c : Nat → Int32} {l : Nat} {N : Nat → Int64} {n : Nat} : dI c l N n 0 0 0 := fun d _ h => ⟨Nat.zero_le _, Nat.zero_le _, h, rfl⟩
theorem dxF_ne {N : Nat → Int64} {d : Int64} {i k : Nat} : ¬ dxF N d i (k + 1) = [] := fun h => by
  unfold dxF at h
  have := (List.append_eq_nil_iff.mp h).1
  split at this <;> cases this
theorem dI_end {c : Nat → Int32} {l : Nat} {N : Nat → Int64} {n i z : Nat} {r : Int64} (h : dI c l N n i z r) (hi : l ≤ i) : ∀ d, dOne d (n + 1) = true → rd c 0 l = dx N d → r = d := fun d h1 h2 => by
  obtain ⟨q1, q2, q3, q4⟩ := h d h1 h2
  rw [show l - i = 0 by omega] at q3
  cases hk : tlen d - z with
  | zero =>
    obtain rfl : z = tlen d := by omega
    rw [q4, wpF_all]
  | succ k =>
    rw [hk] at q3
    exact absurd q3.symm dxF_ne
theorem dI_more {c : Nat → Int32} {l : Nat} {N : Nat → Int64} {n i z : Nat} {r : Int64} (h : dI c l N n i z r) (hi : i < l) {d : Int64} (h1 : dOne d (n + 1) = true) (h2 : rd c 0 l = dx N d) : z < tlen d ∧ c i :: rd c (i + 1) (l - (i + 1)) = (if cdg (tch d (nI z)) 8 = true then (76 :: tx (N (tch d (nI z) - 48).toNatClampNeg)) ++ [59] else [tch d (nI z)]) ++ dxF N d (z + 1) (tlen d - (z + 1)) := by
  obtain ⟨q1, q2, q3, q4⟩ := h d h1 h2
  rw [show l - i = (l - (i + 1)) + 1 by omega] at q3
  have hz : z < tlen d := by
    rcases Nat.lt_or_ge z (tlen d) with q | q
    · exact q
    · rw [show tlen d - z = 0 by omega] at q3
      cases q3
  refine ⟨hz, ?_⟩
  rw [show tlen d - z = (tlen d - (z + 1)) + 1 by omega] at q3
  exact q3
theorem dOne_at {d : Int64} {n z : Nat} (hn : n < 8) (h1 : dOne d (n + 1) = true) (hz : z < tlen d) : ¬ tch d (nI z) = 0 ∧ ¬ tch d (nI z) = 76 ∧ ((cdg (tch d (nI z)) 8 = true ∧ ∃ j, j < n + 1 ∧ tch d (nI z) = nI (48 + j)) ∨ (cdg (tch d (nI z)) 8 = false ∧ isDig (tch d (nI z)) = false)) := by
  obtain ⟨-, h2, -⟩ := dOne_chars h1
  obtain ⟨a, b, c⟩ := dch_ok (by omega) (h2 z hz)
  refine ⟨a, b, ?_⟩
  cases hd : isDig (tch d (nI z)) with
  | false => exact Or.inr ⟨cdg_dig hd, rfl⟩
  | true =>
    obtain ⟨j, hj, e⟩ := c hd
    refine Or.inl ⟨?_, j, hj, e⟩
    rw [e]
    exact (cdg_48 j (by omega)).1
theorem dI_ch {c : Nat → Int32} {l : Nat} {N : Nat → Int64} {n i z : Nat} {r : Int64} (hn : n < 8) (h : dI c l N n i z r) (hi : i < l) (hc : ¬ c i = 76) : dI c l N n (i + 1) (z + 1) (r ||| xshl (c i).toInt64 ((8 : Int32) * nI z)) := fun d h1 h2 => by
  obtain ⟨hz, q⟩ := dI_more h hi h1 h2
  obtain ⟨q1, q2, q3, q4⟩ := h d h1 h2
  have hcd : ¬ cdg (tch d (nI z)) 8 = true := fun w => by
    rw [if_pos w] at q
    exact hc (List.cons.inj q).1
  rw [if_neg hcd] at q
  obtain ⟨e1, e2⟩ := List.cons.inj q
  refine ⟨by omega, by omega, e2, ?_⟩
  rw [wpF_snoc, ← q4, e1]
theorem dI_dig {c : Nat → Int32} {l : Nat} {N : Nat → Int64} {n i z : Nat} {r : Int64} (hn : n < 8) (h : dI c l N n i z r) (hi : i < l) (hc : isDig (c i) = true) : ∀ d, dOne d (n + 1) = true → ¬ rd c 0 l = dx N d := fun d h1 h2 => by
  obtain ⟨hz, q⟩ := dI_more h hi h1 h2
  obtain ⟨-, -, w⟩ := dOne_at hn h1 hz
  rcases w with ⟨w, -⟩ | ⟨w, w'⟩
  · rw [if_pos w] at q
    rw [(List.cons.inj q).1] at hc
    exact absurd hc (by decide)
  · rw [if_neg (by rw [w]; decide)] at q
    rw [(List.cons.inj q).1, w'] at hc
    cases hc
theorem dI_8 {c : Nat → Int32} {l : Nat} {N : Nat → Int64} {n i : Nat} {r : Int64} (h : dI c l N n i 8 r) (hi : i < l) : ∀ d, dOne d (n + 1) = true → ¬ rd c 0 l = dx N d := fun d h1 h2 => by
  have := (dI_more h hi h1 h2).1
  have := tlen_le d
  omega
/-- a class's name in a descriptor -/
theorem dI_L {c : Nat → Int32} {l : Nat} {N : Nat → Int64} {n i z : Nat} {r : Int64} (hn : n < 8) (h : dI c l N n i z r) (hi : i < l) (hc : c i = 76) {d : Int64} (h1 : dOne d (n + 1) = true) (h2 : rd c 0 l = dx N d) : ∃ j, j < n + 1 ∧ i + 1 + tlen (N j) < l ∧ rd c (i + 1) (tlen (N j)) = tx (N j) ∧ c (i + 1 + tlen (N j)) = 59 ∧ (z + 1 ≤ tlen d ∧ rd c (i + 1 + tlen (N j) + 1) (l - (i + 1 + tlen (N j) + 1)) = dxF N d (z + 1) (tlen d - (z + 1)) ∧ r ||| xshl (nI (48 + j)).toInt64 ((8 : Int32) * nI z) = wpF d 0 0 (z + 1) 0 0) := by
  obtain ⟨hz, q⟩ := dI_more h hi h1 h2
  obtain ⟨q1, q2, q3, q4⟩ := h d h1 h2
  obtain ⟨-, n76, w⟩ := dOne_at hn h1 hz
  rcases w with ⟨w, j, hj, ej⟩ | ⟨w, -⟩
  · have es : nI (48 + j) - 48 = nI j := by
      rw [← nI_add, Int32.add_comm]
      exact Int32.add_sub_cancel _ _
    rw [if_pos w, ej, es, nI_clamp (by omega)] at q
    have e2 : rd c (i + 1) (l - (i + 1)) = tx (N j) ++ (59 :: dxF N d (z + 1) (tlen d - (z + 1))) := by
      have : rd c (i + 1) (l - (i + 1)) = (tx (N j) ++ [59]) ++ dxF N d (z + 1) (tlen d - (z + 1)) := (List.cons.inj q).2
      rw [List.append_assoc] at this
      exact this
    have hlen := congrArg List.length e2
    rw [rd_len, List.length_append, tx_len, List.length_cons] at hlen
    have e3 := rd_pre (f := c) (o := i + 1) (X := tx (N j)) (Y := 59 :: dxF N d (z + 1) (tlen d - (z + 1))) (by rw [← List.length_append, ← e2, rd_len])
    rw [tx_len, List.length_cons] at e3
    obtain ⟨e4, e5⟩ := List.cons.inj e3.2
    refine ⟨j, hj, by omega, e3.1, e4, by omega, ?_, ?_⟩
    · rw [show l - (i + 1 + tlen (N j) + 1) = (dxF N d (z + 1) (tlen d - (z + 1))).length by omega]
      exact e5
    · rw [wpF_snoc, ← q4, ej]
  · rw [if_neg (by rw [w]; decide)] at q
    exact absurd ((List.cons.inj q).1.symm.trans hc) n76
