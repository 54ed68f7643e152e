-- the class's reader: descriptors, members
abbrev txt (g : Nat → Nat) (t : Nat) : List Int32 := rd (fun i => nI (tcr g t i)) 0 (tl g t)
theorem sT_tx {g : Nat → Nat} {t : Nat} {s : Int64} (h : txt g t = tx s) : sT g t = s := by
  have e : tl g t = tlen s := rd_inj_len h
  have h8 := tlen_le s
  unfold sT
  rw [if_neg (by omega)]
  exact pk_tx h
/-- the names that a descriptor may tell of -/
abbrev nOk (N : Nat → Int64) (k : Nat) : Prop := (∀ j, j < k → okT (N j)) ∧ (∀ i j, i < k → j < k → N i = N j → i = j)
theorem semi_at {c : Nat → Nat} {l i j : Nat} {N : Nat → Int64} (hc : ∀ x, c x < 256) (ho : okT (N j)) (hi : i < l) (h76 : nI (c i) = 76) (hl : i + 1 + tlen (N j) < l) (hr : rd (fun x => nI (c x)) (i + 1) (tlen (N j)) = tx (N j)) (h59 : nI (c (i + 1 + tlen (N j))) = 59) : smF c (l - i) i = i + 1 + tlen (N j) := by
  obtain ⟨q1, q2, q3, q4⟩ := smF_spec (c := c) (l - i) i
  obtain ⟨-, -, -, -, h5, -, -⟩ := okT_len ho
  have e59 : c (i + 1 + tlen (N j)) = 59 := (nI_eq (b := 59) (by have := hc (i + 1 + tlen (N j)); omega) (by omega)).mp h59
  have hle : smF c (l - i) i ≤ i + 1 + tlen (N j) := by
    rcases Nat.lt_or_ge (i + 1 + tlen (N j)) (smF c (l - i) i) with w | w
    · exact absurd e59 (q3 _ (by omega) w)
    · exact w
  rcases Nat.lt_or_ge (smF c (l - i) i) (i + 1 + tlen (N j)) with w | w
  · have e := q4 (by omega)
    generalize smF c (l - i) i = e' at *
    by_cases z : e' = i
    · rw [z] at e
      rw [e] at h76
      exact absurd h76 (by decide)
    · have := rd_at _ _ _ hr (e' - (i + 1)) (by omega)
      rw [show i + 1 + (e' - (i + 1)) = e' by omega, Nat.zero_add, e] at this
      exact absurd this.symm (h5 _ (by omega)).2
  · omega
set_option maxRecDepth 100000 in
theorem p_R_comp_l {I : Nat → Int32} {A : Nat → Nat → Int32} {B : Nat → Nat → Int64} {Q : xQ} {sz t T n l : Nat} {g : Nat → Nat} (h : BY I A sz g) (hR : RSt A g T) (ht : t ≤ T) (h1 : 1 ≤ t) (hn : n < 8) (e0 : I 0 = nI n) (hN : nOk (B 2) (n + 1)) (hl : l < 256) (hQ : ∀ r, (∀ d, dOne d (n + 1) = true → rd (fun i => nI (tcr g t i)) 0 l = dx (B 2) d → r = d) → Q (.inl (some (.long r))) (HX I A B) 0) : ∀ (k i z : Nat) (r : Int64) (w7 w8 w9 : Option Value), l ≤ i + k → i ≤ 300 → z ≤ 8 → dI (fun i => nI (tcr g t i)) l (B 2) n i z r → xG tb_R_compactDescriptor Q (15, [some (.ref 22), some (.int (nI t)), some (.long r), none, some (.int (nI z)), some (.int (nI l)), some (.int (nI i)), w7, w8, w9], [], (HX I A B), 0)
  | 0, i, z, r, w7, w8, w9, e, hi, hz, hd => by
    refine xG.go [7, 15, 26, 44, 61, 73, 102, 116] 60 ?_
    show (((nI l) ≤ (nI i) → Q (.inl (some (.long r))) (HX I A B) 0) ∧ (¬ (nI l) ≤ (nI i) → xG tb_R_compactDescriptor Q (26, [some (.ref 22), some (.int (nI t)), some (.long r), none, some (.int (nI z)), some (.int (nI l)), some (.int (nI i)), w7, w8, w9], [.int (nI i), .int (nI t), .ref 22], (HX I A B), 0)))
    exact br_y (nI_le (by omega) (by omega)) (hQ r (dI_end hd (by omega)))
  | k + 1, i, z, r, w7, w8, w9, e, hi, hz, hd => by
    refine xG.go [7, 15, 26, 44, 61, 73, 102, 116] 60 ?_
    show (((nI l) ≤ (nI i) → Q (.inl (some (.long r))) (HX I A B) 0) ∧ (¬ (nI l) ≤ (nI i) → xG tb_R_compactDescriptor Q (26, [some (.ref 22), some (.int (nI t)), some (.long r), none, some (.int (nI z)), some (.int (nI l)), some (.int (nI i)), w7, w8, w9], [.int (nI i), .int (nI t), .ref 22], (HX I A B), 0)))
    refine ⟨fun q => hQ r (dI_end hd ?_), fun q => ?_⟩
    · rcases Nat.lt_or_ge i l with w | w
      · exact absurd q (nI_ge w (by omega))
      · exact w
    have hil : i < l := by
      rcases Nat.lt_or_ge i l with w | w
      · exact w
      · exact absurd (nI_le w (by omega)) q
    refine xG.callV (F := xRun tb_R_textChar 3) (a := 22) rfl rfl rfl rfl (p_R_textChar h hR ht h1 (by omega) ?_)
    have hc : ∀ x, tcr g t x < 256 := fun x => h.2.2.1 _
    have tail : ∀ (ch i' : Nat) (w8 w9 : Option Value), ch < 256 → i ≤ i' → i' ≤ 299 → (z < 8 → dI (fun i => nI (tcr g t i)) l (B 2) n (i' + 1) (z + 1) (r ||| xshl (nI ch).toInt64 ((8 : Int32) * nI z))) → xG tb_R_compactDescriptor Q (102, [some (.ref 22), some (.int (nI t)), some (.long r), none, some (.int (nI z)), some (.int (nI l)), some (.int (nI i')), some (.int (nI ch)), w8, w9], [], (HX I A B), 0) := fun ch i' w8 w9 hch hii hi9 hd' => by
      refine xG.go [7, 15, 26, 44, 61, 73, 116] 60 ?_
      show (((nI z) = (8 : Int32) → Q (.inl (some (.long (0 : Int64)))) (HX I A B) 0) ∧ (¬ (nI z) = (8 : Int32) → xG tb_R_compactDescriptor Q (116, [some (.ref 22), some (.int (nI t)), some (.long r), none, some (.int (nI z)), some (.int (nI l)), some (.int (nI i')), some (.int (nI ch)), w8, w9], [.int (nI z), .int (nI ch), .long r], (HX I A B), 0)))
      refine ⟨fun w => hQ 0 (fun d d1 d2 => ?_), fun w => ?_⟩
      · have : z = 8 := (nI_eq (b := 8) (by omega) (by omega)).mp w
        subst this
        exact absurd d2 (dI_8 hd hil d d1)
      · have hz8 : z < 8 := by
          rcases Nat.lt_or_ge z 8 with p | p
          · exact p
          · exact absurd (show nI z = 8 by rw [show z = 8 by omega]; rfl) w
        refine xG.call (F := xRun tb_T_placed 2) rfl rfl (p_T_placed2 hch hz8 ?_)
        refine xG.go [7, 15, 26, 44, 61, 73, 116] 20 ?_
        show xG tb_R_compactDescriptor Q (15, [some (.ref 22), some (.int (nI t)), some (.long (r ||| xshl (nI ch).toInt64 ((8 : Int32) * nI z))), none, some (.int (nI z + 1)), some (.int (nI l)), some (.int (nI i' + 1)), some (.int (nI ch)), w8, w9], [], (HX I A B), 0)
        rw [nI_1, nI_1]
        exact p_R_comp_l h hR ht h1 hn e0 hN hl hQ k (i' + 1) (z + 1) _ _ _ _ (by omega) (by omega) (by omega) (hd' hz8)
    refine xG.go [7, 15, 26, 44, 61, 73, 102, 116] 60 ?_
    show (((nI (tcr g t i)) = (76 : Int32) → xG tb_R_compactDescriptor Q (44, [some (.ref 22), some (.int (nI t)), some (.long r), none, some (.int (nI z)), some (.int (nI l)), some (.int (nI i)), some (.int (nI (tcr g t i))), w8, w9], [.int (nI l), .int (nI i), .int (nI t), .ref 22], (HX I A B), 0)) ∧ (¬ (nI (tcr g t i)) = (76 : Int32) → xG tb_R_compactDescriptor Q (102, [some (.ref 22), some (.int (nI t)), some (.long r), none, some (.int (nI z)), some (.int (nI l)), some (.int (nI i)), some (.int (nI (tcr g t i))), w8, w9], [], (HX I A B), 0)))
    refine ⟨fun w => ?_, fun w => tail _ i _ _ (hc i) (Nat.le_refl i) (by omega) (fun _ => dI_ch hn hd hil w)⟩
    refine xG.callV (F := xRun tb_R_semicolon 5) (a := 22) rfl rfl rfl rfl (p_R_semicolon h hR ht h1 hl (by omega) ?_)
    obtain ⟨s1, s2, s3, s4⟩ := smF_spec (c := tcr g t) (l - i) i
    have hat : ∀ j, okT (B 2 j) → i + 1 + tlen (B 2 j) < l → rd (fun x => nI (tcr g t x)) (i + 1) (tlen (B 2 j)) = tx (B 2 j) → nI (tcr g t (i + 1 + tlen (B 2 j))) = 59 → smF (tcr g t) (l - i) i = i + 1 + tlen (B 2 j) := fun j ho a b c => semi_at (N := B 2) hc ho hil w a b c
    generalize smF (tcr g t) (l - i) i = en at s1 s2 s3 s4 hat ⊢
    have hen : i + 1 ≤ en := by
      rcases Nat.lt_or_ge i en with p | p
      · omega
      · have e' : en = i := by omega
        rw [e'] at s4
        rw [s4 (by omega)] at w
        exact absurd w (by decide)
    obtain ⟨L, rfl⟩ : ∃ L, en = i + 1 + L := ⟨en - (i + 1), by omega⟩
    refine xG.go [7, 15, 26, 44, 61, 73, 102, 116] 60 ?_
    show xG tb_R_compactDescriptor Q (61, [some (.ref 22), some (.int (nI t)), some (.long r), none, some (.int (nI z)), some (.int (nI l)), some (.int (nI i)), some (.int (nI (tcr g t i))), some (.int (nI (i + 1 + L))), w9], [.int (nI (i + 1 + L)), .int ((nI i) + (1 : Int32)), .int (nI t), .ref 22, .ref 1], (HX I A B), 0)
    rw [nI_1]
    refine xG.callV (F := xRun tb_R_shortText3 7) (a := 22) rfl rfl rfl rfl (p_R_shortText3 (s := i + 1) (l := L) h hR ht (fun _ => h1) (by omega) ?_)
    have htt : ∀ j, okT (B 2 j) → L = tlen (B 2 j) → rd (fun x => nI (tcr g t x)) (i + 1) (tlen (B 2 j)) = tx (B 2 j) → (if 8 < L then 0 else pkF (fun j => nI (tcr g t (i + 1 + j))) L 0 0) = B 2 j := fun j ho hL hr => by
      have := tlen_le (B 2 j)
      rw [if_neg (by omega)]
      refine pk_tx ?_
      rw [hL, ← hr]
      exact rd_eq _ _ _ (fun x hx => by rw [Nat.zero_add])
    generalize (if 8 < L then 0 else pkF (fun j => nI (tcr g t (i + 1 + j))) L 0 0) = tt at htt ⊢
    refine xG.go [7, 15, 26, 44, 61, 73, 102, 116] 60 ?_
    show xG tb_R_compactDescriptor Q (73, [some (.ref 22), some (.int (nI t)), some (.long r), none, some (.int (nI z)), some (.int (nI l)), some (.int (nI i)), some (.int (nI (tcr g t i))), some (.int (nI (i + 1 + L))), w9], [.int ((I 0) + (1 : Int32)), .long tt, .ref 1], (HX I A B), 0)
    rw [e0, nI_1]
    refine xG.callV (F := xRun tb_S_classNamed 5) (a := 1) rfl rfl rfl rfl (p_S_classNamed (by omega) ?_)
    have hcl : ∀ j, j < n + 1 → tt = B 2 j → clN (B 2) tt (n + 1) 0 = nI j := fun j hj hj2 => clN_yes hj2.symm (n + 1) 0 (by omega) (by omega) (fun x _ hx ex => hN.2 x j (by omega) hj (ex.trans hj2))
    have hdd : ∀ d, dOne d (n + 1) = true → rd (fun i => nI (tcr g t i)) 0 l = dx (B 2) d → ∃ j, j < n + 1 ∧ clN (B 2) tt (n + 1) 0 = nI j ∧ (z + 1 ≤ tlen d ∧ rd (fun i => nI (tcr g t i)) (i + 1 + L + 1) (l - (i + 1 + L + 1)) = dxF (B 2) d (z + 1) (tlen d - (z + 1)) ∧ r ||| xshl (nI (48 + j)).toInt64 ((8 : Int32) * nI z) = wpF d 0 0 (z + 1) 0 0) := fun d d1 d2 => by
      obtain ⟨j, j1, j2, j3, j4, j5⟩ := dI_L hn hd hil w d1 d2
      have ho := hN.1 j j1
      have eL : L = tlen (B 2 j) := by
        have := hat j ho j2 j3 j4
        omega
      refine ⟨j, j1, hcl j j1 (htt j ho eL j3), ?_⟩
      rw [eL]
      exact j5
    rcases clN_r (f := B 2) (t := tt) (n + 1) 0 with q | ⟨j, -, hj, q⟩
    · rw [q]
      refine xG.go [7, 15, 26, 44, 61, 73, 102, 116] 60 ?_
      show (((-1 : Int32) = (-1 : Int32) → Q (.inl (some (.long (0 : Int64)))) (HX I A B) 0) ∧ (¬ (-1 : Int32) = (-1 : Int32) → xG tb_R_compactDescriptor Q (102, [some (.ref 22), some (.int (nI t)), some (.long r), none, some (.int (nI z)), some (.int (nI l)), some (.int (if (nI i) < (nI (i + 1 + L)) then (nI (i + 1 + L)) else (nI i))), some (.int ((48 : Int32) + (-1 : Int32))), some (.int (nI (i + 1 + L))), some (.int (-1 : Int32))], [], (HX I A B), 0)))
      refine br_y rfl (hQ 0 (fun d d1 d2 => ?_))
      obtain ⟨j, j1, j2, -⟩ := hdd d d1 d2
      exact absurd (q.symm.trans j2) (m1_nI (by omega))
    · rw [q]
      refine xG.go [7, 15, 26, 44, 61, 73, 102, 116] 60 ?_
      show (((nI j) = (-1 : Int32) → Q (.inl (some (.long (0 : Int64)))) (HX I A B) 0) ∧ (¬ (nI j) = (-1 : Int32) → xG tb_R_compactDescriptor Q (102, [some (.ref 22), some (.int (nI t)), some (.long r), none, some (.int (nI z)), some (.int (nI l)), some (.int (if (nI i) < (nI (i + 1 + L)) then (nI (i + 1 + L)) else (nI i))), some (.int ((48 : Int32) + (nI j))), some (.int (nI (i + 1 + L))), some (.int (nI j))], [], (HX I A B), 0)))
      have e48 : (48 : Int32) + nI j = nI (48 + j) := nI_add 48 j
      have emx : (if nI i < nI (i + 1 + L) then nI (i + 1 + L) else nI i) = nI (i + 1 + L) := if_pos (nI_lt (by omega) (by omega))
      rw [e48, emx]
      refine br_n (fun p => m1_nI (by omega) p.symm) (tail (48 + j) (i + 1 + L) _ _ (by omega) (by omega) (by omega) (fun _ d d1 d2 => ?_))
      obtain ⟨j', j1, j2, j3, j4, j5⟩ := hdd d d1 d2
      obtain rfl : j = j' := (nI_eq (by omega) (by omega)).mp (q.symm.trans j2)
      refine ⟨j3, ?_, j4, j5⟩
      rcases Nat.lt_or_ge l (i + 1 + L + 1) with p | p
      · have eL : i + 1 + L = l := by omega
        obtain ⟨x, x1, x2, x3, x4, -⟩ := dI_L hn hd hil w d1 d2
        have := hat x (hN.1 x x1) x2 x3 x4
        omega
      · exact p
theorem p_R_compactDescriptor {I : Nat → Int32} {A : Nat → Nat → Int32} {B : Nat → Nat → Int64} {Q : xQ} {sz t T n : Nat} {g : Nat → Nat} (h : BY I A sz g) (hR : RSt A g T) (ht : t ≤ T) (hn : n < 8) (e0 : I 0 = nI n) (hN : nOk (B 2) (n + 1)) (hQ : ∀ r, (∀ d, dOne d (n + 1) = true → txt g t = dx (B 2) d → r = d) → Q (.inl (some (.long r))) (HX I A B) 0) : xRun tb_R_compactDescriptor 10 [.ref 22, .int (nI t)] (HX I A B) Q := by
  have hl := tl_lt h.2.2.1 t
  refine ⟨Nat.le_of_ble_eq_true rfl, ?_⟩
  refine xG.go [7, 15, 26, 44, 61, 73, 102, 116] 60 ?_
  show xG tb_R_compactDescriptor Q (7, [some (.ref 22), some (.int (nI t)), some (.long (0 : Int64)), none, some (.int (0 : Int32)), none, none, none, none, none], [.int (nI t), .ref 22], (HX I A B), 0)
  refine xG.callV (F := xRun tb_R_textLength 2) (a := 22) rfl rfl rfl rfl (p_R_textLength h hR ht ?_)
  refine xG.go [7, 15, 26, 44, 61, 73, 116] 20 ?_
  show xG tb_R_compactDescriptor Q (15, [some (.ref 22), some (.int (nI t)), some (.long 0), none, some (.int (nI 0)), some (.int (nI (tl g t))), some (.int (nI 0)), none, none, none], [], (HX I A B), 0)
  by_cases w : t = 0
  · have e : tl g t = 0 := if_pos w
    have hd : dI (fun i => nI (tcr g t i)) (tl g t) (B 2) n 0 0 0 := dI_0
    refine xG.go [7, 22, 26, 44, 61, 73, 116] 60 ?_
    show (((nI (tl g t)) ≤ (nI 0) → Q (.inl (some (.long (0 : Int64)))) (HX I A B) 0) ∧ (¬ (nI (tl g t)) ≤ (nI 0) → xG tb_R_compactDescriptor Q (22, [some (.ref 22), some (.int (nI t)), some (.long (0 : Int64)), none, some (.int (nI 0)), some (.int (nI (tl g t))), some (.int (nI 0)), none, none, none], [], (HX I A B), 0)))
    exact br_y (nI_le (by omega) (by omega)) (hQ 0 (dI_end hd (by omega)))
  · exact p_R_comp_l h hR ht (by omega) hn e0 hN hl hQ (tl g t) 0 0 0 none none none (by omega) (by omega) (by omega) dI_0
def nsc (g : Nat → Nat) (N : Nat → Int64) (T n a : Nat) : Int32 := if g a = 0 then -1 else if T < g a then -2 else if clN N (sT g (g a)) n 0 = -1 then -2 else clN N (sT g (g a)) n 0
theorem p_R_nextSuperclass {I : Nat → Int32} {A : Nat → Nat → Int32} {B : Nat → Nat → Int64} {Q : xQ} {sz a T n : Nat} {g : Nat → Nat} (h : BY I A sz g) (hR : RSt A g T) (ea : I 8 = nI a) (ha : a < 2 ^ 30) (eT : I 7 = nI T) (hn : n < 8) (e0 : I 0 = nI n) (hq : Q (.inl (some (.int (nsc g (B 2) T n a)))) (HX (va_up I 8 (nI (a + 1))) A B) 0) : xRun tb_R_nextSuperclass 3 [.ref 22] (HX I A B) Q := by
  have hg := h.2.2.1 a
  have hT := hR.1
  refine ⟨Nat.le_of_ble_eq_true rfl, ?_⟩
  refine xG.go [1, 29, 39, 42] 60 ?_
  show xG tb_R_nextSuperclass Q (1, [some (.ref 22), none, none], [.ref 22], (HX I A B), 0)
  refine xG.callV (F := xRun tb_R_nextByte 1) (a := 22) rfl rfl rfl rfl (p_R_nextByte h ea ha ?_)
  refine xG.go [1, 29, 39, 42] 60 ?_
  show (((nI (g a)) = 0 → Q (.inl (some (.int (-1 : Int32)))) (HX (va_up I 8 (nI (a + 1))) A B) 0) ∧ (¬ (nI (g a)) = 0 → (((nI (g a)) ≤ (I 7) → xG tb_R_nextSuperclass Q (29, [some (.ref 22), some (.int (nI (g a))), none], [.int (nI (g a)), .ref 22, .ref 1], (HX (va_up I 8 (nI (a + 1))) A B), 0)) ∧ (¬ (nI (g a)) ≤ (I 7) → xG tb_R_nextSuperclass Q (42, [some (.ref 22), some (.int (nI (g a))), none], [.int (-1 : Int32)], (HX (va_up I 8 (nI (a + 1))) A B), 0)))))
  rw [eT]
  unfold nsc at hq
  refine ⟨fun z => ?_, fun z => ?_⟩
  · rw [if_pos ((nI_eq (b := 0) (by omega) (by omega)).mp z)] at hq
    exact hq
  · rw [if_neg (fun w => z (by rw [w]; rfl))] at hq
    refine ⟨fun w => ?_, fun w => ?_⟩
    · have w' : ¬ T < g a := fun q => nI_ge q (by omega) w
      rw [if_neg w'] at hq
      refine xG.callV (F := xRun tb_R_shortText1 2) (a := 22) rfl rfl rfl rfl (p_R_shortText1 (I := va_up I 8 (nI (a + 1))) h hR (by omega) ?_)
      refine xG.go [1, 29, 39, 42] 60 ?_
      show xG tb_R_nextSuperclass Q (39, [some (.ref 22), some (.int (nI (g a))), none], [.int (I 0), .long (sT g (g a)), .ref 1], (HX (va_up I 8 (nI (a + 1))) A B), 0)
      rw [e0]
      refine xG.callV (F := xRun tb_S_classNamed 5) (a := 1) rfl rfl rfl rfl (p_S_classNamed (by omega) ?_)
      generalize clN (B 2) (sT g (g a)) n 0 = v at hq ⊢
      refine xG.go [1, 29, 39] 60 ?_
      show ((v = (-1 : Int32) → Q (.inl (some (.int (-2 : Int32)))) (HX (va_up I 8 (nI (a + 1))) A B) 0) ∧ (¬ v = (-1 : Int32) → Q (.inl (some (.int v))) (HX (va_up I 8 (nI (a + 1))) A B) 0))
      refine ⟨fun p => ?_, fun p => ?_⟩
      · rw [if_pos p] at hq; exact hq
      · rw [if_neg p] at hq; exact hq
    · rw [if_pos (by
        rcases Nat.lt_or_ge T (g a) with q | q
        · exact q
        · exact absurd (nI_le q (by omega)) w)] at hq
      refine xG.go [1, 29, 39] 60 ?_
      show (((-1 : Int32) = (-1 : Int32) → Q (.inl (some (.int (-2 : Int32)))) (HX (va_up I 8 (nI (a + 1))) A B) 0) ∧ (¬ (-1 : Int32) = (-1 : Int32) → Q (.inl (some (.int (-1 : Int32)))) (HX (va_up I 8 (nI (a + 1))) A B) 0))
      exact br_y rfl hq
theorem nt_le {g : Nat → Nat} {T a : Nat} : nt g T a ≤ T := by
  unfold nt
  split <;> omega
/-- a member is read, or there is none such -/
theorem p_R_placeMember {I : Nat → Int32} {A : Nat → Nat → Int32} {B : Nat → Nat → Int64} {Q : xQ} {sz a T n m : Nat} {g : Nat → Nat} (h : BY I A sz g) (hR : RSt A g T) (ea : I 8 = nI a) (ha : a < 2 ^ 29) (eT : I 7 = nI T) (hn : n < 8) (e0 : I 0 = nI n) (hN : nOk (B 2) (n + 1)) (hm : m ≤ 6) (e6 : A 6 n = nI m)
    (h0 : (∀ t d, isId t = true → dOne d (n + 1) = true → txt g (nt g T a) = tx t → txt g (nt g T (a + 1)) = dx (B 2) d → ¬ (m < 6 ∧ owN (B 8) (B 10) t d n m 0 = -1)) → Q (.inl (some (.int 0))) (HX (va_up I 8 (nI (a + 3))) A B) 0)
    (h1 : ∀ t d, isId t = true → dOne d (n + 1) = true → (∀ t', txt g (nt g T a) = tx t' → t = t') → (∀ d', dOne d' (n + 1) = true → txt g (nt g T (a + 1)) = dx (B 2) d' → d = d') → m < 6 → owN (B 8) (B 10) t d n m 0 = -1 → Q (.inl (some (.int 1))) (HX (va_up I 8 (nI (a + 3))) (pmA A n m (if g (a + 2) = 1 then 1 else 0)) (pmB B (8 * n + m) t d)) 0) : xRun tb_R_placeMember 7 [.ref 22] (HX I A B) Q := by
  have hT := hR.1
  refine ⟨Nat.le_of_ble_eq_true rfl, ?_⟩
  refine xG.go [10, 13, 19, 22, 28, 43, 54, 68, 86] 60 ?_
  show xG tb_R_placeMember Q (10, [some (.ref 22), some (.int (I 0)), none, none, none, none, none], [.ref 22, .ref 22], (HX I A B), 0)
  rw [e0]
  refine xG.callV (F := xRun tb_R_nextText 2) (a := 22) rfl rfl rfl rfl (p_R_nextText h ea (by omega) eT hT ?_)
  refine xG.callV (F := xRun tb_R_shortText1 2) (a := 22) rfl rfl rfl rfl (p_R_shortText1 (I := va_up I 8 (nI (a + 1))) h hR nt_le ?_)
  have ht : ∀ t', txt g (nt g T a) = tx t' → sT g (nt g T a) = t' := fun t' w => sT_tx w
  generalize sT g (nt g T a) = t at ht ⊢
  refine xG.go [10, 13, 19, 22, 28, 43, 54, 68, 86] 60 ?_
  show xG tb_R_placeMember Q (19, [some (.ref 22), some (.int (nI n)), some (.long t), none, none, none, none], [.ref 22, .ref 22], (HX (va_up I 8 (nI (a + 1))) A B), 0)
  refine xG.callV (F := xRun tb_R_nextText 2) (a := 22) rfl rfl rfl rfl (p_R_nextText (I := va_up I 8 (nI (a + 1))) h rfl (by omega) eT hT ?_)
  rw [up_up]
  refine xG.callV (F := xRun tb_R_compactDescriptor 10) (a := 22) rfl rfl rfl rfl (p_R_compactDescriptor (I := va_up I 8 (nI (a + 1 + 1))) h hR nt_le hn e0 hN (fun d hd => ?_))
  refine xG.go [10, 13, 19, 22, 28, 43, 54, 68, 86] 60 ?_
  show xG tb_R_placeMember Q (28, [some (.ref 22), some (.int (nI n)), some (.long t), none, some (.long d), none, none], [.ref 22], (HX (va_up I 8 (nI (a + 1 + 1))) A B), 0)
  refine xG.callV (F := xRun tb_R_nextByte 1) (a := 22) rfl rfl rfl rfl (p_R_nextByte (I := va_up I 8 (nI (a + 1 + 1))) h rfl (by omega) ?_)
  rw [up_up]
  have hg := h.2.2.1 (a + 1 + 1)
  have key : ∀ b, b = (if g (a + 2) = 1 then (1 : Int32) else 0) → xG tb_R_placeMember Q (40, [some (.ref 22), some (.int (nI n)), some (.long t), none, some (.long d), none, none], [.int b], HX (va_up I 8 (nI (a + 3))) A B, 0) := fun b eb => by
    have hb : b = 0 ∨ b = 1 := by
      rw [eb]
      split
      · exact Or.inr rfl
      · exact Or.inl rfl
    refine xG.go [10, 13, 19, 22, 28, 43, 54, 68, 86] 60 ?_
    show xG tb_R_placeMember Q (43, [some (.ref 22), some (.int (nI n)), some (.long t), none, some (.long d), none, some (.int b)], [.long t], (HX (va_up I 8 (nI (a + 3))) A B), 0)
    refine xG.call (F := xRun tb_T_isIdentifier 2) rfl rfl (p_T_isIdentifier ?_)
    refine xG.go [10, 13, 19, 22, 28, 43, 54, 68, 86] 60 ?_
    show (((bI (isId t)) = 0 → (((0 : Int32) = (0 : Int32) ∨ (0 : Int32) = 1) ∧ Q (.inl (some (.int (0 : Int32)))) (HX (va_up I 8 (nI (a + 3))) A B) 0)) ∧ (¬ (bI (isId t)) = 0 → xG tb_R_placeMember Q (54, [some (.ref 22), some (.int (nI n)), some (.long t), none, some (.long d), none, some (.int b)], [.int ((nI n) + (1 : Int32)), .long d], (HX (va_up I 8 (nI (a + 3))) A B), 0)))
    cases hi : isId t with
    | false =>
      refine br_y rfl ⟨Or.inl rfl, h0 (fun t' d' i1 i2 i3 i4 _ => ?_)⟩
      rw [ht t' i3, i1] at hi
      cases hi
    | true =>
      rw [nI_1]
      refine br_n (by decide) ?_
      refine xG.call (F := xRun tb_D_isOne 5) rfl rfl (p_D_isOne ?_)
      refine xG.go [10, 13, 19, 22, 28, 43, 54, 68, 86] 60 ?_
      show (((bI (dOne d (n + 1))) = 0 → (((0 : Int32) = (0 : Int32) ∨ (0 : Int32) = 1) ∧ Q (.inl (some (.int (0 : Int32)))) (HX (va_up I 8 (nI (a + 3))) A B) 0)) ∧ (¬ (bI (dOne d (n + 1))) = 0 → xG tb_R_placeMember Q (68, [some (.ref 22), some (.int (nI n)), some (.long t), none, some (.long d), none, some (.int b)], [.long d, .long t, .int (nI n), .ref 1], (HX (va_up I 8 (nI (a + 3))) A B), 0)))
      cases ho : dOne d (n + 1) with
      | false =>
        refine br_y rfl ⟨Or.inl rfl, h0 (fun t' d' i1 i2 i3 i4 _ => ?_)⟩
        rw [hd d' i2 i4, i2] at ho
        cases ho
      | true =>
        refine br_n (by decide) ?_
        refine xG.callV (F := xRun tb_S_hasRoomFor 6) (a := 1) rfl rfl rfl rfl (p_S_hasRoomFor (I := va_up I 8 (nI (a + 3))) hn hm e6 ?_)
        refine xG.go [10, 13, 19, 22, 28, 43, 54, 68, 86] 60 ?_
        show (((bI (decide (m < 6 ∧ owN (B 8) (B 10) t d n m 0 = -1))) = 0 → (((0 : Int32) = (0 : Int32) ∨ (0 : Int32) = 1) ∧ Q (.inl (some (.int (0 : Int32)))) (HX (va_up I 8 (nI (a + 3))) A B) 0)) ∧ (¬ (bI (decide (m < 6 ∧ owN (B 8) (B 10) t d n m 0 = -1))) = 0 → xG tb_R_placeMember Q (86, [some (.ref 22), some (.int (nI n)), some (.long t), none, some (.long d), none, some (.int b)], [.int b, .long d, .long t, .int (nI n), .ref 1], (HX (va_up I 8 (nI (a + 3))) A B), 0)))
        by_cases w : m < 6 ∧ owN (B 8) (B 10) t d n m 0 = -1
        · rw [decide_eq_true w]
          refine br_n (by decide) ?_
          refine xG.callV (F := xRun tb_S_placeMember 9) (a := 1) rfl rfl rfl rfl (p_S_placeMember (I := va_up I 8 (nI (a + 3))) hn w.1 e6 hb ?_)
          have hy := h1 t d hi ho ht hd w.1 w.2
          rw [← eb] at hy
          refine xG.go [10, 13, 19, 22, 28, 43, 54, 68, 86] 20 ?_
          exact ⟨Or.inr rfl, hy⟩
        · rw [decide_eq_false w]
          refine br_y rfl ⟨Or.inl rfl, h0 (fun t' d' i1 i2 i3 i4 i5 => ?_)⟩
          rw [ht t' i3, hd d' i2 i4] at w
          exact w i5
  refine xG.go [10, 13, 19, 22, 28, 40, 43, 54, 68, 86] 60 ?_
  show (((nI (g (a + 1 + 1))) = (1 : Int32) → xG tb_R_placeMember Q (40, [some (.ref 22), some (.int (nI n)), some (.long t), none, some (.long d), none, none], [.int (1 : Int32)], (HX (va_up I 8 (nI (a + 1 + 1 + 1))) A B), 0)) ∧ (¬ (nI (g (a + 1 + 1))) = (1 : Int32) → xG tb_R_placeMember Q (40, [some (.ref 22), some (.int (nI n)), some (.long t), none, some (.long d), none, none], [.int (0 : Int32)], (HX (va_up I 8 (nI (a + 1 + 1 + 1))) A B), 0)))
  refine ⟨fun z => key 1 ?_, fun z => key 0 ?_⟩
  · rw [if_pos ((nI_eq (b := 1) (by omega) (by omega)).mp z)]
  · rw [if_neg (fun w => z (by rw [w]; rfl))]
