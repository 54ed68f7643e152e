-- the reference's pool
theorem n64 (p i : Nat) : (64 : Int32) * nI p + nI i = nI (64 * p + i) := by
  have e : (64 : Int32) = nI 64 := rfl
  rw [e, nI_mul, nI_add]
abbrev mk (I I' : Nat → Int32) (A A' : Nat → Nat → Int32) : Prop :=
  (∀ j, ¬ (j = 12 ∨ j = 13 ∨ j = 14) → I' j = I j) ∧ (∀ j, ¬ (j = 36 ∨ j = 37 ∨ j = 38 ∨ j = 39 ∨ j = 40) → A' j = A j)
theorem mk_refl {I : Nat → Int32} {A : Nat → Nat → Int32} : mk I I A A := ⟨fun _ _ => rfl, fun _ _ => rfl⟩
theorem mk_trans {I I' I'' : Nat → Int32} {A A' A'' : Nat → Nat → Int32} (h : mk I I' A A') (h' : mk I' I'' A' A'') : mk I I'' A A'' :=
  ⟨fun j hj => (h'.1 j hj).trans (h.1 j hj), fun j hj => (h'.2 j hj).trans (h.2 j hj)⟩
abbrev MP (I : Nat → Int32) (A : Nat → Nat → Int32) (pl : List (List Int32)) : Prop :=
  I 13 = nI pl.length ∧ ∀ p (h : p < pl.length), A 38 p = nI pl[p].length ∧ rd (A 37) (64 * p) pl[p].length = pl[p] ∧ pl[p].length ≤ 62
abbrev LN (I : Nat → Int32) (A : Nat → Nat → Int32) (y : List Int32) : Prop := I 14 = nI y.length ∧ rd (A 39) 0 y.length = y
theorem p_M_pooled_i {I : Nat → Int32} {A : Nat → Nat → Int32} {B : Nat → Nat → Int64} {Q : xQ} {y : List Int32} {p : Nat} (hp : p < 14) (hy : y.length ≤ 62) (e14 : I 14 = nI y.length)
    (hK : ∀ (b : Bool) w3, (b = true ↔ rd (A 37) (64 * p) y.length = rd (A 39) 0 y.length) → xG tb_M_pooled Q (75, [some (.ref 24), some (.int (nI p)), some (.int (bI b)), w3], [], (HX I A B), 0)) : ∀ (k i : Nat), i + k = y.length → (∀ j, j < i → A 37 (64 * p + j) = A 39 (0 + j)) → xG tb_M_pooled Q (31, [some (.ref 24), some (.int (nI p)), some (.int (bI true)), some (.int (nI i))], [], (HX I A B), 0)
  | 0, i, h, hj => by
    refine xG.go [31, 75] 60 ?_
    show (((I 14) ≤ (nI i) → xG tb_M_pooled Q (75, [some (.ref 24), some (.int (nI p)), some (.int (bI true)), some (.int (nI i))], [], (HX I A B), 0)) ∧ (¬ (I 14) ≤ (nI i) → (((bI true) = 0 → xG tb_M_pooled Q (75, [some (.ref 24), some (.int (nI p)), some (.int (bI true)), some (.int (nI i))], [], (HX I A B), 0)) ∧ (¬ (bI true) = 0 → (vp_in (((64 : Int32) * (nI p)) + (nI i)) 960 ∧ (vp_in (nI i) 64 ∧ ((((A 37) (((64 : Int32) * (nI p)) + (nI i)).toNatClampNeg) = ((A 39) (nI i).toNatClampNeg) → xG tb_M_pooled Q (31, [some (.ref 24), some (.int (nI p)), some (.int (1 : Int32)), some (.int ((nI i) + (1 : Int32)))], [], (HX I A B), 0)) ∧ (¬ ((A 37) (((64 : Int32) * (nI p)) + (nI i)).toNatClampNeg) = ((A 39) (nI i).toNatClampNeg) → xG tb_M_pooled Q (31, [some (.ref 24), some (.int (nI p)), some (.int (0 : Int32)), some (.int ((nI i) + (1 : Int32)))], [], (HX I A B), 0)))))))))
    rw [e14]
    refine br_y (nI_le (by omega) (by omega)) (hK true _ ⟨fun _ => rd_eq _ _ _ (fun j hj' => hj j (by omega)), fun _ => rfl⟩)
  | k + 1, i, h, hj => by
    refine xG.go [31, 75] 60 ?_
    show (((I 14) ≤ (nI i) → xG tb_M_pooled Q (75, [some (.ref 24), some (.int (nI p)), some (.int (bI true)), some (.int (nI i))], [], (HX I A B), 0)) ∧ (¬ (I 14) ≤ (nI i) → (((bI true) = 0 → xG tb_M_pooled Q (75, [some (.ref 24), some (.int (nI p)), some (.int (bI true)), some (.int (nI i))], [], (HX I A B), 0)) ∧ (¬ (bI true) = 0 → (vp_in (((64 : Int32) * (nI p)) + (nI i)) 960 ∧ (vp_in (nI i) 64 ∧ ((((A 37) (((64 : Int32) * (nI p)) + (nI i)).toNatClampNeg) = ((A 39) (nI i).toNatClampNeg) → xG tb_M_pooled Q (31, [some (.ref 24), some (.int (nI p)), some (.int (1 : Int32)), some (.int ((nI i) + (1 : Int32)))], [], (HX I A B), 0)) ∧ (¬ ((A 37) (((64 : Int32) * (nI p)) + (nI i)).toNatClampNeg) = ((A 39) (nI i).toNatClampNeg) → xG tb_M_pooled Q (31, [some (.ref 24), some (.int (nI p)), some (.int (0 : Int32)), some (.int ((nI i) + (1 : Int32)))], [], (HX I A B), 0)))))))))
    rw [e14, n64, nI_clamp (by omega), nI_clamp (by omega), nI_1]
    refine br_n (nI_ge (by omega) (by omega)) (br_n (by decide) ⟨vp_in_nI (by omega) (by omega), vp_in_nI (by omega) (by omega), fun z => ?_, fun z => ?_⟩)
    · refine p_M_pooled_i hp hy e14 hK k (i + 1) (by omega) (fun j hj' => ?_)
      by_cases q : j = i
      · rw [q, Nat.zero_add]; exact z
      · exact hj j (by omega)
    · have hf : false = true ↔ rd (A 37) (64 * p) y.length = rd (A 39) 0 y.length := ⟨fun q => (by cases q), fun q => absurd (by have := rd_at _ _ _ q i (by omega); rw [Nat.zero_add] at this; exact this) z⟩
      refine xG.go [43, 75] 60 ?_
      show (((I 14) ≤ (nI (i + 1)) → xG tb_M_pooled Q (75, [some (.ref 24), some (.int (nI p)), some (.int (0 : Int32)), some (.int (nI (i + 1)))], [], (HX I A B), 0)) ∧ (¬ (I 14) ≤ (nI (i + 1)) → (((0 : Int32) = 0 → xG tb_M_pooled Q (75, [some (.ref 24), some (.int (nI p)), some (.int (0 : Int32)), some (.int (nI (i + 1)))], [], (HX I A B), 0)) ∧ (¬ (0 : Int32) = 0 → xG tb_M_pooled Q (43, [some (.ref 24), some (.int (nI p)), some (.int (0 : Int32)), some (.int (nI (i + 1)))], [], (HX I A B), 0)))))
      exact ⟨fun _ => hK false _ hf, fun _ => br_y rfl (hK false _ hf)⟩
theorem p_M_pooled_o {I : Nat → Int32} {A : Nat → Nat → Int32} {B : Nat → Nat → Int64} {Q : xQ} {pl : List (List Int32)} {y : List Int32} (hw : MP I A pl) (hl : LN I A y) (hy : y.length ≤ 62) (hp : pl.length < 14) (h1 : kn y pl < pl.length → Q (.inl (some (.int (nI (kn y pl + 1))))) (HX I A B) 0) (h2 : kn y pl = pl.length → ∀ w2 w3, xG tb_M_pooled Q (89, [some (.ref 24), some (.int (nI pl.length)), w2, w3], [], (HX I A B), 0)) : ∀ (k p : Nat) (w2 w3 : Option Value), p + k = pl.length → p ≤ kn y pl → xG tb_M_pooled Q (2, [some (.ref 24), some (.int (nI p)), w2, w3], [], (HX I A B), 0)
  | 0, p, w2, w3, h, hk => by
    have := kn_le y pl
    refine xG.go [2, 31, 89] 60 ?_
    show (((I 13) ≤ (nI p) → xG tb_M_pooled Q (89, [some (.ref 24), some (.int (nI p)), w2, w3], [], (HX I A B), 0)) ∧ (¬ (I 13) ≤ (nI p) → (vp_in (nI p) 15 ∧ ((((A 38) (nI p).toNatClampNeg) = (I 14) → xG tb_M_pooled Q (31, [some (.ref 24), some (.int (nI p)), some (.int (1 : Int32)), some (.int (0 : Int32))], [], (HX I A B), 0)) ∧ (¬ ((A 38) (nI p).toNatClampNeg) = (I 14) → xG tb_M_pooled Q (31, [some (.ref 24), some (.int (nI p)), some (.int (0 : Int32)), some (.int (0 : Int32))], [], (HX I A B), 0))))))
    rw [hw.1]
    obtain rfl : p = pl.length := by omega
    exact br_y (nI_le (by omega) (by omega)) (h2 (by omega) _ _)
  | k + 1, p, w2, w3, h, hk => by
    have hkl := kn_le y pl
    have hpl : p < pl.length := by omega
    obtain ⟨q1, q2, q3⟩ := hw.2 p hpl
    have hst := kn_step hpl hk
    refine xG.go [2, 31, 89] 60 ?_
    show (((I 13) ≤ (nI p) → xG tb_M_pooled Q (89, [some (.ref 24), some (.int (nI p)), w2, w3], [], (HX I A B), 0)) ∧ (¬ (I 13) ≤ (nI p) → (vp_in (nI p) 15 ∧ ((((A 38) (nI p).toNatClampNeg) = (I 14) → xG tb_M_pooled Q (31, [some (.ref 24), some (.int (nI p)), some (.int (1 : Int32)), some (.int (0 : Int32))], [], (HX I A B), 0)) ∧ (¬ ((A 38) (nI p).toNatClampNeg) = (I 14) → xG tb_M_pooled Q (31, [some (.ref 24), some (.int (nI p)), some (.int (0 : Int32)), some (.int (0 : Int32))], [], (HX I A B), 0))))))
    rw [hw.1, hl.1, nI_clamp (by omega), q1]
    have fin : ∀ (b : Bool) w3, (b = true ↔ pl[p] = y) → xG tb_M_pooled Q (75, [some (.ref 24), some (.int (nI p)), some (.int (bI b)), w3], [], (HX I A B), 0) := fun b w3 hb => by
      refine xG.go [2] 60 ?_
      show (((bI b) = 0 → xG tb_M_pooled Q (2, [some (.ref 24), some (.int ((nI p) + (1 : Int32))), some (.int (bI b)), w3], [], (HX I A B), 0)) ∧ (¬ (bI b) = 0 → Q (.inl (some (.int ((nI p) + (1 : Int32))))) (HX I A B) 0))
      rw [nI_1]
      cases b with
      | true =>
        have e := hst.mp (hb.mp rfl)
        rw [e] at h1
        exact br_n (by decide) (h1 hpl)
      | false =>
        have e : ¬ kn y pl = p := fun q => by have := hb.mpr (hst.mpr q); cases this
        exact br_y rfl (p_M_pooled_o hw hl hy hp h1 h2 k (p + 1) _ _ (by omega) (by omega))
    refine br_n (nI_ge (by omega) (by omega)) ⟨vp_in_nI (by omega) (by omega), fun z => ?_, fun z => ?_⟩
    · have el : pl[p].length = y.length := (nI_eq (by omega) (by omega)).mp z
      refine p_M_pooled_i (by omega) hy hl.1 (fun b w3 hb => fin b w3 ?_) y.length 0 (Nat.zero_add _) (fun j hj => by omega)
      rw [hb, hl.2, ← el, q2]
    · have ne : ¬ pl[p] = y := fun q => z (by rw [q])
      refine xG.go [43, 75] 60 ?_
      show (((I 14) ≤ (0 : Int32) → xG tb_M_pooled Q (75, [some (.ref 24), some (.int (nI p)), some (.int (0 : Int32)), some (.int (0 : Int32))], [], (HX I A B), 0)) ∧ (¬ (I 14) ≤ (0 : Int32) → (((0 : Int32) = 0 → xG tb_M_pooled Q (75, [some (.ref 24), some (.int (nI p)), some (.int (0 : Int32)), some (.int (0 : Int32))], [], (HX I A B), 0)) ∧ (¬ (0 : Int32) = 0 → xG tb_M_pooled Q (43, [some (.ref 24), some (.int (nI p)), some (.int (0 : Int32)), some (.int (0 : Int32))], [], (HX I A B), 0)))))
      have hf : false = true ↔ pl[p] = y := ⟨fun q => (by cases q), fun q => absurd q ne⟩
      exact ⟨fun _ => fin false _ hf, fun _ => br_y rfl (fin false _ hf)⟩
theorem p_M_pooled_b {I : Nat → Int32} {A : Nat → Nat → Int32} {B : Nat → Nat → Int64} {Q : xQ} {y : List Int32} {n : Nat} {w2 w3 : Option Value} (hn : n < 14) (hy : y.length ≤ 62) (e13 : I 13 = nI n) (e14 : I 14 = nI y.length) (hK : ∀ g w1, (∀ j, j < 64 * n → g j = A 37 j) → rd g (64 * n) y.length = rd (A 39) 0 y.length → xG tb_M_pooled Q (125, [some (.ref 24), w1, w2, w3], [], HX I (va_up A 37 g) B, 0)) : ∀ (k i : Nat) (g : Nat → Int32), i + k = y.length → (∀ j, j < 64 * n → g j = A 37 j) → (∀ j, j < i → g (64 * n + j) = A 39 (0 + j)) → xG tb_M_pooled Q (91, [some (.ref 24), some (.int (nI i)), w2, w3], [], HX I (va_up A 37 g) B, 0)
  | 0, i, g, h, h1, h2 => by
    refine xG.go [91, 125] 60 ?_
    show (((I 14) ≤ (nI i) → xG tb_M_pooled Q (125, [some (.ref 24), some (.int (nI i)), w2, w3], [], (HX I (va_up A 37 g) B), 0)) ∧ (¬ (I 14) ≤ (nI i) → (vp_in (nI i) 64 ∧ (vp_in (((64 : Int32) * (I 13)) + (nI i)) 960 ∧ xG tb_M_pooled Q (91, [some (.ref 24), some (.int ((nI i) + (1 : Int32))), w2, w3], [], (HX I (va_up A 37 (upd g (((64 : Int32) * (I 13)) + (nI i)).toNatClampNeg ((A 39) (nI i).toNatClampNeg))) B), 0)))))
    rw [e14]
    exact br_y (nI_le (by omega) (by omega)) (hK g _ h1 (rd_eq _ _ _ (fun j hj => h2 j (by omega))))
  | k + 1, i, g, h, h1, h2 => by
    refine xG.go [91, 125] 60 ?_
    show (((I 14) ≤ (nI i) → xG tb_M_pooled Q (125, [some (.ref 24), some (.int (nI i)), w2, w3], [], (HX I (va_up A 37 g) B), 0)) ∧ (¬ (I 14) ≤ (nI i) → (vp_in (nI i) 64 ∧ (vp_in (((64 : Int32) * (I 13)) + (nI i)) 960 ∧ xG tb_M_pooled Q (91, [some (.ref 24), some (.int ((nI i) + (1 : Int32))), w2, w3], [], (HX I (va_up A 37 (upd g (((64 : Int32) * (I 13)) + (nI i)).toNatClampNeg ((A 39) (nI i).toNatClampNeg))) B), 0)))))
    rw [e14, e13, n64, nI_clamp (by omega), nI_clamp (by omega), nI_1]
    refine br_n (nI_ge (by omega) (by omega)) ⟨vp_in_nI (by omega) (by omega), vp_in_nI (by omega) (by omega), ?_⟩
    refine p_M_pooled_b hn hy e13 e14 hK k (i + 1) _ (by omega) (fun j hj => ?_) (fun j hj => ?_)
    · rw [pk_un (by omega)]
      exact h1 j hj
    · by_cases q : j = i
      · rw [q, pk_us, Nat.zero_add]
      · rw [pk_un (by omega)]
        exact h2 j (by omega)
theorem p_M_pooled {I : Nat → Int32} {A : Nat → Nat → Int32} {B : Nat → Nat → Int64} {Q : xQ} {pl : List (List Int32)} {y : List Int32} (hw : MP I A pl) (hl : LN I A y) (hy : y.length ≤ 62) (hp : pl.length < 14) (hq : ∀ I' A', MP I' A' (addP pl y) → mk I I' A A' → A' 40 = A 40 → Q (.inl (some (.int (nI (kn y pl + 1))))) (HX I' A' B) 0) : xRun tb_M_pooled 4 [.ref 24] (HX I A B) Q := by
  refine ⟨Nat.le_of_ble_eq_true rfl, ?_⟩
  refine xG.go [2] 20 ?_
  show xG tb_M_pooled Q (2, [some (.ref 24), some (.int (nI 0)), none, none], [], (HX I A B), 0)
  refine p_M_pooled_o hw hl hy hp (fun w => hq I A (by rw [show addP pl y = pl from if_pos w]; exact hw) mk_refl rfl) (fun w w2 w3 => ?_) pl.length 0 none none (Nat.zero_add _) (Nat.zero_le _)
  have ea : addP pl y = pl ++ [y] := if_neg (by omega)
  rw [ea, w] at hq
  refine xG.go [91] 20 ?_
  show xG tb_M_pooled Q (91, [some (.ref 24), some (.int (nI 0)), w2, w3], [], (HX I A B), 0)
  have go := p_M_pooled_b (I := I) (A := A) (B := B) (Q := Q) (y := y) (n := pl.length) (w2 := w2) (w3 := w3) hp hy hw.1 hl.1 (fun g w1 h1 h2 => ?_) y.length 0 (A 37) (Nat.zero_add _) (fun j _ => rfl) (fun j hj => by omega)
  · rw [up_same] at go
    exact go
  · refine xG.go [] 60 ?_
    show (vp_in (I 13) 15 ∧ Q (.inl (some (.int ((I 13) + (1 : Int32))))) (HX (va_up I 13 ((I 13) + (1 : Int32))) (va_up (va_up A 37 g) 38 (upd (A 38) (I 13).toNatClampNeg (I 14))) B) 0)
    rw [hw.1, hl.1, nI_clamp (by omega), nI_1]
    refine ⟨vp_in_nI (by omega) (by omega), hq (va_up I 13 (nI (pl.length + 1))) (va_up (va_up A 37 g) 38 (upd (A 38) pl.length (nI y.length))) ⟨?_, fun p h => ?_⟩ ⟨fun j hj => up_n (fun q => hj (by omega)), fun j hj => by rw [up_n (fun q => hj (by omega)), up_n (fun q => hj (by omega))]⟩ rfl⟩
    · show nI (pl.length + 1) = nI (pl ++ [y]).length
      rw [List.length_append, List.length_singleton]
    · rw [List.length_append, List.length_singleton] at h
      show upd (A 38) pl.length (nI y.length) p = _ ∧ rd g (64 * p) _ = _ ∧ _
      by_cases q : p < pl.length
      · have eg : (pl ++ [y])[p]'(by rw [List.length_append, List.length_singleton]; exact h) = pl[p] := List.getElem_append_left q
        obtain ⟨q1, q2, q3⟩ := hw.2 p q
        rw [eg, pk_un (by omega)]
        refine ⟨q1, ?_, q3⟩
        rw [← q2, rd_len]
        exact rd_eq _ _ _ (fun i hi => h1 _ (by omega))
      · obtain rfl : p = pl.length := by omega
        have eg : (pl ++ [y])[pl.length]'(by rw [List.length_append, List.length_singleton]; omega) = y := by
          rw [List.getElem_append_right (Nat.le_refl _)]
          simp
        rw [eg, pk_us]
        exact ⟨rfl, h2.trans hl.2, hy⟩
theorem p_M_spell_l {I : Nat → Int32} {A : Nat → Nat → Int32} {B : Nat → Nat → Int64} {Q : xQ} {y : List Int32} {t : Int64} (ht : mlen t = tlen t) (hy : y.length + tlen t ≤ 64) (e14 : I 14 = nI y.length) (hK : ∀ g, rd g 0 (y.length + tlen t) = y ++ tx t → Q (.inl none) (HX (va_up I 14 (nI (y.length + tlen t))) (va_up A 39 g) B) 0) : ∀ (k i : Nat) (g : Nat → Int32), i + k = tlen t → rd g 0 (y.length + i) = y ++ rd (fun i => tch t (nI i)) 0 i → xG tb_M_spell Q (8, [some (.ref 24), some (.long t), none, some (.int (nI (tlen t))), some (.int (nI i))], [], HX I (va_up A 39 g) B, 0)
  | 0, i, g, h, hg => by
    have := tlen_le t
    refine xG.go [1, 8, 28] 60 ?_
    show (((nI (tlen t)) ≤ (nI i) → Q (.inl none) (HX (va_up I 14 ((I 14) + (nI (tlen t)))) (va_up A 39 g) B) 0) ∧ (¬ (nI (tlen t)) ≤ (nI i) → xG tb_M_spell Q (28, [some (.ref 24), some (.long t), none, some (.int (nI (tlen t))), some (.int (nI i))], [.int (nI i), .long t, .int ((I 14) + (nI i)), .ref 39], (HX I (va_up A 39 g) B), 0)))
    rw [e14, nI_add]
    obtain rfl : i = tlen t := by omega
    exact br_y (nI_le (by omega) (by omega)) (hK g hg)
  | k + 1, i, g, h, hg => by
    have := tlen_le t
    refine xG.go [1, 8, 28] 60 ?_
    show (((nI (tlen t)) ≤ (nI i) → Q (.inl none) (HX (va_up I 14 ((I 14) + (nI (tlen t)))) (va_up A 39 g) B) 0) ∧ (¬ (nI (tlen t)) ≤ (nI i) → xG tb_M_spell Q (28, [some (.ref 24), some (.long t), none, some (.int (nI (tlen t))), some (.int (nI i))], [.int (nI i), .long t, .int ((I 14) + (nI i)), .ref 39], (HX I (va_up A 39 g) B), 0)))
    rw [e14, nI_add, nI_add]
    refine br_n (nI_ge (by omega) (by omega)) ?_
    refine xG.call (F := xRun tb_M_charAt 3) rfl rfl (p_M_charAt (by omega) ?_)
    refine xG.go [1, 8, 28] 60 ?_
    show (vp_in (nI (y.length + i)) 64 ∧ xG tb_M_spell Q (8, [some (.ref 24), some (.long t), none, some (.int (nI (tlen t))), some (.int ((nI i) + (1 : Int32)))], [], (HX I (va_up A 39 (upd g (nI (y.length + i)).toNatClampNeg (tch t (nI i)))) B), 0))
    rw [nI_clamp (by omega), nI_1]
    refine ⟨vp_in_nI (by omega) (by omega), p_M_spell_l ht hy e14 hK k (i + 1) _ (by omega) ?_⟩
    rw [← Nat.add_assoc, rd_snoc, hg, rd_add, List.append_assoc, rd_1, Nat.zero_add]
theorem p_M_spell {I : Nat → Int32} {A : Nat → Nat → Int32} {B : Nat → Nat → Int64} {Q : xQ} {y : List Int32} {t : Int64} (ht : mlen t = tlen t) (hl : LN I A y) (hy : y.length + tlen t ≤ 64) (hq : ∀ g, rd g 0 (y ++ tx t).length = y ++ tx t → Q (.inl none) (HX (va_up I 14 (nI (y ++ tx t).length)) (va_up A 39 g) B) 0) : xRun tb_M_spell 5 [.ref 24, .long t] (HX I A B) Q := by
  have := tlen_le t
  refine ⟨Nat.le_of_ble_eq_true rfl, ?_⟩
  refine xG.go [1, 8, 28] 60 ?_
  show xG tb_M_spell Q (1, [some (.ref 24), some (.long t), none, none, none], [.long t], (HX I A B), 0)
  refine xG.call (F := xRun tb_M_length 3) rfl rfl (p_M_length ?_)
  rw [ht]
  refine xG.go [1, 8, 28] 20 ?_
  show xG tb_M_spell Q (8, [some (.ref 24), some (.long t), none, some (.int (nI (tlen t))), some (.int (nI 0))], [], (HX I A B), 0)
  have el : (y ++ tx t).length = y.length + tlen t := by rw [List.length_append, tx_len]
  rw [el] at hq
  have go := p_M_spell_l (I := I) (A := A) (B := B) (Q := Q) ht hy hl.1 hq (tlen t) 0 (A 39) (Nat.zero_add _) (by rw [Nat.add_zero, hl.2]; exact (List.append_nil y).symm)
  rw [up_same] at go
  exact go
theorem p_M_nameInPool {I : Nat → Int32} {A : Nat → Nat → Int32} {B : Nat → Nat → Int64} {Q : xQ} {pl : List (List Int32)} {t : Int64} (ht : mlen t = tlen t) (hw : MP I A pl) (hp : pl.length < 14) (hq : ∀ I' A', MP I' A' (addP pl (tx t)) → mk I I' A A' → A' 40 = A 40 → Q (.inl (some (.int (nI (kn (tx t) pl + 1))))) (HX I' A' B) 0) : xRun tb_M_nameInPool 3 [.ref 24, .long t] (HX I A B) Q := by
  have h8 := tlen_le t
  refine ⟨Nat.le_of_ble_eq_true rfl, ?_⟩
  refine xG.go [7, 11] 60 ?_
  show xG tb_M_nameInPool Q (7, [some (.ref 24), some (.long t), none], [.long t, .ref 24], (HX (va_up I 14 (0 : Int32)) A B), 0)
  refine xG.callV (F := xRun tb_M_spell 5) (a := 24) rfl rfl rfl rfl (p_M_spell (I := va_up I 14 0) (y := []) ht ⟨rfl, rfl⟩ (by rw [List.length_nil]; omega) (fun g hg => ?_))
  rw [up_up, List.nil_append]
  rw [List.nil_append] at hg
  refine xG.go [7, 11] 60 ?_
  show xG tb_M_nameInPool Q (11, [some (.ref 24), some (.long t), none], [.ref 24], (HX (va_up I 14 (nI (tx t).length)) (va_up A 39 g) B), 0)
  refine xG.callV (F := xRun tb_M_pooled 4) (a := 24) rfl rfl rfl rfl (p_M_pooled (I := va_up I 14 (nI (tx t).length)) (A := va_up A 39 g) (pl := pl) (y := tx t) hw ⟨rfl, hg⟩ (by rw [tx_len]; omega) hp (fun I' A' h1 h2 h3 => ?_))
  refine xG.go [7, 11] 20 ?_
  exact hq I' A' h1 (mk_trans ⟨fun j hj => up_n (fun q => hj (by omega)), fun j hj => up_n (fun q => hj (by omega))⟩ h2) h3
