-- the class's reader
abbrev BY (I : Nat → Int32) (A : Nat → Nat → Int32) (sz : Nat) (g : Nat → Nat) : Prop :=
  I 1 = nI sz ∧ sz ≤ 480 ∧ (∀ i, g i < 256) ∧ (∀ i, i < sz → A 13 i = nI (g i)) ∧ (∀ i, sz ≤ i → g i = 0)
theorem p_R_get {I : Nat → Int32} {A : Nat → Nat → Int32} {B : Nat → Nat → Int64} {Q : xQ} {sz i : Nat} {g : Nat → Nat} (h : BY I A sz g) (hi : i < 2 ^ 31) (hq : Q (.inl (some (.int (nI (g i))))) (HX I A B) 0) : xRun tb_B_get 2 [.ref 12, .int (nI i)] (HX I A B) Q := by
  obtain ⟨h1, h2, h3, h4, h5⟩ := h
  refine p_B_get_b (n := sz) (by omega) h1 ?_
  rw [h1, isC_nI (by omega) hi, nI_clamp hi]
  by_cases w : i < sz
  · rw [decide_eq_true w, if_pos rfl, h4 i w]
    exact hq
  · rw [decide_eq_false w, if_neg (by decide)]
    rw [h5 i (by omega)] at hq
    exact hq
theorem p_T_placed2 {h : xH} {Q : xQ} {k i : Nat} (hk : k < 256) (hi : i < 8) (hq : Q (.inl (some (.long (xshl (nI k).toInt64 ((8 : Int32) * nI i))))) h 0) : xRun tb_T_placed 2 [.int (nI k), .int (nI i)] h Q := by
  refine ⟨Nat.le_of_ble_eq_true rfl, ?_⟩
  refine xG.go [] 60 ?_
  show (((nI i) < 0 → Q (.inl (some (.long (0 : Int64)))) h 0) ∧ (¬ (nI i) < 0 → (((nI i) < (8 : Int32) → Q (.inl (some (.long (xshl ((nI k) &&& (255 : Int32)).toInt64 ((8 : Int32) * (nI i)))))) h 0) ∧ (¬ (nI i) < (8 : Int32) → Q (.inl (some (.long (0 : Int64)))) h 0))))
  rw [and255 k hk]
  exact br_n (nI_pos (by omega)) (br_y (nI_lt (b := 8) hi (by omega)) hq)
/-- where text t + 1 of the pool starts -/
def sp (g : Nat → Nat) : Nat → Nat
  | 0 => 2
  | t + 1 => sp g t + 1 + g (sp g t)
theorem sp_le {g : Nat → Nat} (h : ∀ i, g i < 256) : ∀ t, sp g t ≤ 2 + 256 * t
  | 0 => Nat.le_refl 2
  | t + 1 => by
    have := sp_le h t
    have := h (sp g t)
    unfold sp
    omega
theorem p_R_skip_l {I : Nat → Int32} {A : Nat → Nat → Int32} {B : Nat → Nat → Int64} {Q : xQ} {sz : Nat} {g : Nat → Nat} (h : BY I A sz g) (hT : g 1 ≤ 14) (h0 : ¬ sp g (g 1) ≤ sz → ∀ x y f, Q (.inl (some (.int 0))) (HX (va_up (va_up I 7 x) 8 y) (va_up A 23 f) B) 0) (h1 : sp g (g 1) ≤ sz → ∀ f, (∀ t, t < g 1 → f (t + 1) = nI (sp g t)) → Q (.inl (some (.int 1))) (HX (va_up (va_up I 7 (nI (g 1))) 8 (nI (sp g (g 1)))) (va_up A 23 f) B) 0) : ∀ (k i : Nat) (f : Nat → Int32), i + k = g 1 → (∀ t, t < i → f (t + 1) = nI (sp g t)) → xG tb_R_skipPool Q (30, [some (.ref 22), some (.int (nI (i + 1)))], [], HX (va_up (va_up I 7 (nI (g 1))) 8 (nI (sp g i))) (va_up A 23 f) B, 0)
  | 0, i, f, e, hf => by
    have hb := sp_le h.2.2.1 i
    refine xG.go [6, 30, 62, 84] 60 ?_
    show (((nI (g 1)) < (nI (i + 1)) → xG tb_R_skipPool Q (84, [some (.ref 22), some (.int (nI (i + 1)))], [.ref 12, .int (nI (sp g i))], (HX (va_up (va_up I 7 (nI (g 1))) 8 (nI (sp g i))) (va_up A 23 f) B), 0)) ∧ (¬ (nI (g 1)) < (nI (i + 1)) → (vp_in (nI (i + 1)) 15 ∧ xG tb_R_skipPool Q (62, [some (.ref 22), some (.int (nI (i + 1)))], [.int (nI (sp g i)), .ref 12, .int (1 : Int32), .int (nI (sp g i)), .ref 22], (HX (va_up (va_up I 7 (nI (g 1))) 8 (nI (sp g i))) (va_up A 23 (upd f (nI (i + 1)).toNatClampNeg (nI (sp g i)))) B), 0))))
    obtain rfl : i = g 1 := by omega
    refine br_y (nI_lt (by omega) (by omega)) ?_
    refine xG.callV (F := xRun tb_B_size 1) (a := 12) rfl rfl rfl rfl (p_B_size_b ?_)
    rw [show va_up (va_up I 7 (nI (g 1))) 8 (nI (sp g (g 1))) 1 = I 1 from rfl, h.1]
    refine xG.go [6, 30, 62, 84] 60 ?_
    show (((nI sz) < (nI (sp g (g 1))) → (((0 : Int32) = (0 : Int32) ∨ (0 : Int32) = 1) ∧ Q (.inl (some (.int (0 : Int32)))) (HX (va_up (va_up I 7 (nI (g 1))) 8 (nI (sp g (g 1)))) (va_up A 23 f) B) 0)) ∧ (¬ (nI sz) < (nI (sp g (g 1))) → (((1 : Int32) = (0 : Int32) ∨ (1 : Int32) = 1) ∧ Q (.inl (some (.int (1 : Int32)))) (HX (va_up (va_up I 7 (nI (g 1))) 8 (nI (sp g (g 1)))) (va_up A 23 f) B) 0)))
    have hz := h.2.1
    refine ⟨fun z => ⟨Or.inl rfl, h0 (fun w => nI_nlt w (by omega) z) _ _ _⟩, fun z => ⟨Or.inr rfl, h1 ?_ f hf⟩⟩
    rcases Nat.lt_or_ge sz (sp g (g 1)) with w | w
    · exact absurd (nI_lt w (by omega)) z
    · exact w
  | k + 1, i, f, e, hf => by
    have hb := sp_le h.2.2.1 i
    refine xG.go [6, 30, 62, 84] 60 ?_
    show (((nI (g 1)) < (nI (i + 1)) → xG tb_R_skipPool Q (84, [some (.ref 22), some (.int (nI (i + 1)))], [.ref 12, .int (nI (sp g i))], (HX (va_up (va_up I 7 (nI (g 1))) 8 (nI (sp g i))) (va_up A 23 f) B), 0)) ∧ (¬ (nI (g 1)) < (nI (i + 1)) → (vp_in (nI (i + 1)) 15 ∧ xG tb_R_skipPool Q (62, [some (.ref 22), some (.int (nI (i + 1)))], [.int (nI (sp g i)), .ref 12, .int (1 : Int32), .int (nI (sp g i)), .ref 22], (HX (va_up (va_up I 7 (nI (g 1))) 8 (nI (sp g i))) (va_up A 23 (upd f (nI (i + 1)).toNatClampNeg (nI (sp g i)))) B), 0))))
    rw [nI_clamp (by omega)]
    refine br_n (nI_nlt (by omega) (by omega)) ⟨vp_in_nI (by omega) (by omega), ?_⟩
    refine xG.callV (F := xRun tb_B_get 2) (a := 12) rfl rfl rfl rfl (p_R_get (I := va_up (va_up I 7 (nI (g 1))) 8 (nI (sp g i))) (A := va_up A 23 (upd f (i + 1) (nI (sp g i)))) h (by omega) ?_)
    have hg := h.2.2.1 (sp g i)
    refine xG.go [6, 30, 62, 84] 60 ?_
    show xG tb_R_skipPool Q (30, [some (.ref 22), some (.int ((nI (i + 1)) + (1 : Int32)))], [], (HX (va_up (va_up I 7 (nI (g 1))) 8 ((nI (sp g i)) + ((1 : Int32) + (nI (g (sp g i)))))) (va_up A 23 (upd f (i + 1) (nI (sp g i)))) B), 0)
    have ea : nI (sp g i) + (1 + nI (g (sp g i))) = nI (sp g (i + 1)) := by
      rw [← Int32.add_assoc, nI_1, nI_add]
      rfl
    rw [ea, nI_1]
    refine p_R_skip_l h hT h0 h1 k (i + 1) _ (by omega) (fun t ht => ?_)
    by_cases q : t = i
    · rw [q, pk_us]
    · rw [pk_un (by omega)]
      exact hf t (by omega)
theorem p_R_skipPool {I : Nat → Int32} {A : Nat → Nat → Int32} {B : Nat → Nat → Int64} {Q : xQ} {sz : Nat} {g : Nat → Nat} (h : BY I A sz g) (h0 : ¬ (g 1 ≤ 14 ∧ sp g (g 1) ≤ sz) → ∀ x y f, Q (.inl (some (.int 0))) (HX (va_up (va_up I 7 x) 8 y) (va_up A 23 f) B) 0) (h1 : g 1 ≤ 14 → sp g (g 1) ≤ sz → ∀ f, (∀ t, t < g 1 → f (t + 1) = nI (sp g t)) → Q (.inl (some (.int 1))) (HX (va_up (va_up I 7 (nI (g 1))) 8 (nI (sp g (g 1)))) (va_up A 23 f) B) 0) : xRun tb_R_skipPool 2 [.ref 22] (HX I A B) Q := by
  have hg := h.2.2.1 1
  refine ⟨Nat.le_of_ble_eq_true rfl, ?_⟩
  refine xG.go [6, 30, 62, 84] 60 ?_
  show xG tb_R_skipPool Q (6, [some (.ref 22), none], [.int (1 : Int32), .ref 12, .ref 22], (HX I A B), 0)
  refine xG.callV (F := xRun tb_B_get 2) (a := 12) rfl rfl rfl rfl (p_R_get (i := 1) h (by omega) ?_)
  refine xG.go [6, 30, 62, 84] 60 ?_
  show (((nI (g 1)) ≤ (14 : Int32) → xG tb_R_skipPool Q (30, [some (.ref 22), some (.int (1 : Int32))], [], (HX (va_up (va_up I 7 (nI (g 1))) 8 (2 : Int32)) A B), 0)) ∧ (¬ (nI (g 1)) ≤ (14 : Int32) → (((0 : Int32) = (0 : Int32) ∨ (0 : Int32) = 1) ∧ Q (.inl (some (.int (0 : Int32)))) (HX (va_up (va_up I 7 (nI (g 1))) 8 (2 : Int32)) A B) 0)))
  refine ⟨fun z => ?_, fun z => ⟨Or.inl rfl, ?_⟩⟩
  · have hT : g 1 ≤ 14 := by
      rcases Nat.lt_or_ge 14 (g 1) with w | w
      · exact absurd z (nI_ge (a := 14) w (by omega))
      · exact w
    have go := p_R_skip_l (B := B) (Q := Q) h hT (fun w => h0 (fun q => w q.2)) (fun w f hf => h1 hT w f hf) (g 1) 0 (A 23) (Nat.zero_add _) (fun t ht => by omega)
    rw [up_same] at go
    exact go
  · have := h0 (fun q => z (nI_le (b := 14) q.1 (by omega))) (nI (g 1)) 2 (A 23)
    rw [up_same] at this
    exact this
theorem p_R_nextByte {I : Nat → Int32} {A : Nat → Nat → Int32} {B : Nat → Nat → Int64} {Q : xQ} {sz a : Nat} {g : Nat → Nat} (h : BY I A sz g) (ea : I 8 = nI a) (ha : a < 2 ^ 30) (hq : Q (.inl (some (.int (nI (g a))))) (HX (va_up I 8 (nI (a + 1))) A B) 0) : xRun tb_R_nextByte 1 [.ref 22] (HX I A B) Q := by
  refine ⟨Nat.le_of_ble_eq_true rfl, ?_⟩
  refine xG.go [20] 60 ?_
  show xG tb_R_nextByte Q (20, [some (.ref 22)], [.int (((I 8) + (1 : Int32)) - (1 : Int32)), .ref 12], (HX (va_up I 8 ((I 8) + (1 : Int32))) A B), 0)
  rw [ea, nI_1, nI_pred]
  refine xG.callV (F := xRun tb_B_get 2) (a := 12) rfl rfl rfl rfl (p_R_get (I := va_up I 8 (nI (a + 1))) h (by omega) ?_)
  refine xG.go [20] 60 ?_
  show Q (.inl (some (.int (nI (g a))))) (HX (va_up I 8 (nI (a + 1))) A B) 0
  exact hq
def nt (g : Nat → Nat) (T a : Nat) : Nat := if g a ≤ T then g a else 0
theorem p_R_nextText {I : Nat → Int32} {A : Nat → Nat → Int32} {B : Nat → Nat → Int64} {Q : xQ} {sz a T : Nat} {g : Nat → Nat} (h : BY I A sz g) (ea : I 8 = nI a) (ha : a < 2 ^ 30) (eT : I 7 = nI T) (hT : T ≤ 14) (hq : Q (.inl (some (.int (nI (nt g T a))))) (HX (va_up I 8 (nI (a + 1))) A B) 0) : xRun tb_R_nextText 2 [.ref 22] (HX I A B) Q := by
  have hg := h.2.2.1 a
  refine ⟨Nat.le_of_ble_eq_true rfl, ?_⟩
  refine xG.go [1] 60 ?_
  show xG tb_R_nextText Q (1, [some (.ref 22), none], [.ref 22], (HX I A B), 0)
  refine xG.callV (F := xRun tb_R_nextByte 1) (a := 22) rfl rfl rfl rfl (p_R_nextByte h ea ha ?_)
  refine xG.go [1] 60 ?_
  show (((I 7) < (nI (g a)) → Q (.inl (some (.int (0 : Int32)))) (HX (va_up I 8 (nI (a + 1))) A B) 0) ∧ (¬ (I 7) < (nI (g a)) → Q (.inl (some (.int (nI (g a))))) (HX (va_up I 8 (nI (a + 1))) A B) 0))
  rw [eT]
  unfold nt at hq
  refine ⟨fun z => ?_, fun z => ?_⟩
  · rw [if_neg (fun w => nI_nlt w (by omega) z)] at hq
    exact hq
  · rw [if_pos (by
      rcases Nat.lt_or_ge T (g a) with w | w
      · exact absurd (nI_lt w (by omega)) z
      · exact w)] at hq
    exact hq
def tl (g : Nat → Nat) (t : Nat) : Nat := if t = 0 then 0 else g (sp g (t - 1))
def tcr (g : Nat → Nat) (t i : Nat) : Nat := g (sp g (t - 1) + 1 + i)
abbrev RSt (A : Nat → Nat → Int32) (g : Nat → Nat) (T : Nat) : Prop := T ≤ 14 ∧ ∀ t, t < T → A 23 (t + 1) = nI (sp g t)
theorem p_R_textLength {I : Nat → Int32} {A : Nat → Nat → Int32} {B : Nat → Nat → Int64} {Q : xQ} {sz t T : Nat} {g : Nat → Nat} (h : BY I A sz g) (hR : RSt A g T) (ht : t ≤ T) (hq : Q (.inl (some (.int (nI (tl g t))))) (HX I A B) 0) : xRun tb_R_textLength 2 [.ref 22, .int (nI t)] (HX I A B) Q := by
  have hT := hR.1
  refine ⟨Nat.le_of_ble_eq_true rfl, ?_⟩
  refine xG.go [18] 60 ?_
  show (((nI t) = 0 → Q (.inl (some (.int (0 : Int32)))) (HX I A B) 0) ∧ (¬ (nI t) = 0 → (vp_in (nI t) 15 ∧ xG tb_R_textLength Q (18, [some (.ref 22), some (.int (nI t))], [.int ((A 23) (nI t).toNatClampNeg), .ref 12], (HX I A B), 0))))
  unfold tl at hq
  by_cases w : t = 0
  · rw [if_pos w] at hq
    rw [w]
    exact br_y rfl hq
  · have hs := sp_le h.2.2.1 (t - 1)
    have e := hR.2 (t - 1) (by omega)
    rw [show t - 1 + 1 = t by omega] at e
    rw [if_neg w] at hq
    rw [nI_clamp (by omega), e]
    refine br_n (fun z => w ((nI_eq (b := 0) (by omega) (by omega)).mp z)) ⟨vp_in_nI (by omega) (by omega), ?_⟩
    refine xG.callV (F := xRun tb_B_get 2) (a := 12) rfl rfl rfl rfl (p_R_get h (by omega) ?_)
    refine xG.go [18] 60 ?_
    show Q (.inl (some (.int (nI (g (sp g (t - 1))))))) (HX I A B) 0
    exact hq
theorem p_R_textChar {I : Nat → Int32} {A : Nat → Nat → Int32} {B : Nat → Nat → Int64} {Q : xQ} {sz t T i : Nat} {g : Nat → Nat} (h : BY I A sz g) (hR : RSt A g T) (ht : t ≤ T) (h1 : 1 ≤ t) (hi : i < 1000) (hq : Q (.inl (some (.int (nI (tcr g t i))))) (HX I A B) 0) : xRun tb_R_textChar 3 [.ref 22, .int (nI t), .int (nI i)] (HX I A B) Q := by
  have hT := hR.1
  have hs := sp_le h.2.2.1 (t - 1)
  have e := hR.2 (t - 1) (by omega)
  rw [show t - 1 + 1 = t by omega] at e
  refine ⟨Nat.le_of_ble_eq_true rfl, ?_⟩
  refine xG.go [14] 60 ?_
  show (vp_in (nI t) 15 ∧ xG tb_R_textChar Q (14, [some (.ref 22), some (.int (nI t)), some (.int (nI i))], [.int ((((A 23) (nI t).toNatClampNeg) + (1 : Int32)) + (nI i)), .ref 12], (HX I A B), 0))
  rw [nI_clamp (by omega), e, nI_1, nI_add]
  refine ⟨vp_in_nI (by omega) (by omega), ?_⟩
  refine xG.callV (F := xRun tb_B_get 2) (a := 12) rfl rfl rfl rfl (p_R_get h (by omega) ?_)
  refine xG.go [14] 60 ?_
  show Q (.inl (some (.int (nI (tcr g t i))))) (HX I A B) 0
  exact hq
theorem p_R_short_l {I : Nat → Int32} {A : Nat → Nat → Int32} {B : Nat → Nat → Int64} {Q : xQ} {sz t T s l : Nat} {g : Nat → Nat} (h : BY I A sz g) (hR : RSt A g T) (ht : t ≤ T) (h1 : s < s + l → 1 ≤ t) (hl : l ≤ 8) (hs : s + l < 1000) : ∀ (k j : Nat) (r : Int64), j + k = l → Q (.inl (some (.long (pkF (fun j => nI (tcr g t (s + j))) k j r)))) (HX I A B) 0 → xG tb_R_shortText3 Q (16, [some (.ref 22), some (.int (nI t)), some (.int (nI s)), some (.int (nI (s + l))), some (.long r), none, some (.int (nI (s + j)))], [], (HX I A B), 0)
  | 0, j, r, e, hq => by
    refine xG.go [16, 28, 35] 60 ?_
    show (((nI (s + l)) ≤ (nI (s + j)) → Q (.inl (some (.long r))) (HX I A B) 0) ∧ (¬ (nI (s + l)) ≤ (nI (s + j)) → xG tb_R_shortText3 Q (28, [some (.ref 22), some (.int (nI t)), some (.int (nI s)), some (.int (nI (s + l))), some (.long r), none, some (.int (nI (s + j)))], [.int (nI (s + j)), .int (nI t), .ref 22, .long r], (HX I A B), 0)))
    exact br_y (nI_le (by omega) (by omega)) hq
  | k + 1, j, r, e, hq => by
    refine xG.go [16, 28, 35] 60 ?_
    show (((nI (s + l)) ≤ (nI (s + j)) → Q (.inl (some (.long r))) (HX I A B) 0) ∧ (¬ (nI (s + l)) ≤ (nI (s + j)) → xG tb_R_shortText3 Q (28, [some (.ref 22), some (.int (nI t)), some (.int (nI s)), some (.int (nI (s + l))), some (.long r), none, some (.int (nI (s + j)))], [.int (nI (s + j)), .int (nI t), .ref 22, .long r], (HX I A B), 0)))
    refine br_n (nI_ge (by omega) (by omega)) ?_
    refine xG.callV (F := xRun tb_R_textChar 3) (a := 22) rfl rfl rfl rfl (p_R_textChar h hR ht (h1 (by omega)) (by omega) ?_)
    refine xG.go [16, 28, 35] 60 ?_
    show xG tb_R_shortText3 Q (35, [some (.ref 22), some (.int (nI t)), some (.int (nI s)), some (.int (nI (s + l))), some (.long r), none, some (.int (nI (s + j)))], [.int ((nI (s + j)) - (nI s)), .int (nI (tcr g t (s + j))), .long r], (HX I A B), 0)
    have es : nI (s + j) - nI s = nI j := by
      rw [← nI_add, Int32.add_comm, Int32.add_sub_cancel]
    rw [es]
    refine xG.call (F := xRun tb_T_placed 2) rfl rfl (p_T_placed2 (h.2.2.1 _) (by omega) ?_)
    refine xG.go [16, 28, 35] 20 ?_
    show xG tb_R_shortText3 Q (16, [some (.ref 22), some (.int (nI t)), some (.int (nI s)), some (.int (nI (s + l))), some (.long (r ||| xshl (nI (tcr g t (s + j))).toInt64 ((8 : Int32) * nI j))), none, some (.int (nI (s + j) + 1))], [], (HX I A B), 0)
    rw [nI_1, Nat.add_assoc]
    exact p_R_short_l h hR ht h1 hl hs k (j + 1) _ (by omega) hq
theorem p_R_shortText3 {I : Nat → Int32} {A : Nat → Nat → Int32} {B : Nat → Nat → Int64} {Q : xQ} {sz t T s l : Nat} {g : Nat → Nat} (h : BY I A sz g) (hR : RSt A g T) (ht : t ≤ T) (h1 : s < s + l → 1 ≤ t) (hs : s + l < 1000) (hq : Q (.inl (some (.long (if 8 < l then 0 else pkF (fun j => nI (tcr g t (s + j))) l 0 0)))) (HX I A B) 0) : xRun tb_R_shortText3 7 [.ref 22, .int (nI t), .int (nI s), .int (nI (s + l))] (HX I A B) Q := by
  refine ⟨Nat.le_of_ble_eq_true rfl, ?_⟩
  refine xG.go [16, 28, 35] 60 ?_
  show ((((nI (s + l)) - (nI s)) ≤ (8 : Int32) → xG tb_R_shortText3 Q (16, [some (.ref 22), some (.int (nI t)), some (.int (nI s)), some (.int (nI (s + l))), some (.long (0 : Int64)), none, some (.int (nI s))], [], (HX I A B), 0)) ∧ (¬ ((nI (s + l)) - (nI s)) ≤ (8 : Int32) → Q (.inl (some (.long (0 : Int64)))) (HX I A B) 0))
  have es : nI (s + l) - nI s = nI l := by
    rw [← nI_add, Int32.add_comm, Int32.add_sub_cancel]
  rw [es]
  refine ⟨fun z => ?_, fun z => ?_⟩
  · have w : ¬ 8 < l := fun w => nI_ge (a := 8) w (by omega) z
    rw [if_neg w] at hq
    exact p_R_short_l h hR ht h1 (by omega) hs l 0 0 (Nat.zero_add l) hq
  · rw [if_pos (by
      rcases Nat.lt_or_ge 8 l with w | w
      · exact w
      · exact absurd (nI_le (b := 8) w (by omega)) z)] at hq
    exact hq
def sT (g : Nat → Nat) (t : Nat) : Int64 := if 8 < tl g t then 0 else pkF (fun j => nI (tcr g t j)) (tl g t) 0 0
theorem tl_lt {g : Nat → Nat} (h : ∀ i, g i < 256) (t : Nat) : tl g t < 256 := by
  unfold tl
  split
  · omega
  · exact h _
theorem tl_pos {g : Nat → Nat} {t : Nat} (h : 0 < tl g t) : 1 ≤ t := by
  rcases Nat.eq_zero_or_pos t with q | q
  · unfold tl at h
    rw [if_pos q] at h
    omega
  · exact q
theorem p_R_shortText1 {I : Nat → Int32} {A : Nat → Nat → Int32} {B : Nat → Nat → Int64} {Q : xQ} {sz t T : Nat} {g : Nat → Nat} (h : BY I A sz g) (hR : RSt A g T) (ht : t ≤ T) (hq : Q (.inl (some (.long (sT g t)))) (HX I A B) 0) : xRun tb_R_shortText1 2 [.ref 22, .int (nI t)] (HX I A B) Q := by
  have hl := tl_lt h.2.2.1 t
  refine ⟨Nat.le_of_ble_eq_true rfl, ?_⟩
  refine xG.go [5, 8] 60 ?_
  show xG tb_R_shortText1 Q (5, [some (.ref 22), some (.int (nI t))], [.int (nI t), .ref 22, .int (0 : Int32), .int (nI t), .ref 22], (HX I A B), 0)
  refine xG.callV (F := xRun tb_R_textLength 2) (a := 22) rfl rfl rfl rfl (p_R_textLength h hR ht ?_)
  have e0 : nI (tl g t) = nI (0 + tl g t) := by rw [Nat.zero_add]
  rw [e0]
  refine xG.callV (F := xRun tb_R_shortText3 7) (a := 22) rfl rfl rfl rfl (p_R_shortText3 (s := 0) h hR ht (fun w => tl_pos (g := g) (by omega)) (by omega) ?_)
  refine xG.go [5, 8] 20 ?_
  have eq : (fun j => nI (tcr g t (0 + j))) = (fun j => nI (tcr g t j)) := by
    funext j
    rw [Nat.zero_add]
  rw [eq]
  exact hq
def smF (c : Nat → Nat) : Nat → Nat → Nat
  | 0, i => i
  | k + 1, i => if c i = 59 then i else smF c k (i + 1)
theorem p_R_semi_l {I : Nat → Int32} {A : Nat → Nat → Int32} {B : Nat → Nat → Int64} {Q : xQ} {sz t T l : Nat} {s : Int32} {g : Nat → Nat} (h : BY I A sz g) (hR : RSt A g T) (ht : t ≤ T) (h1 : 1 ≤ t) (hl : l < 256) : ∀ (k i : Nat), i + k = l → Q (.inl (some (.int (nI (smF (tcr g t) k i))))) (HX I A B) 0 → xG tb_R_semicolon Q (3, [some (.ref 22), some (.int (nI t)), some (.int s), some (.int (nI l)), some (.int (nI i))], [], (HX I A B), 0)
  | 0, i, e, hq => by
    refine xG.go [3, 13] 60 ?_
    show (((nI l) ≤ (nI i) → Q (.inl (some (.int (nI i)))) (HX I A B) 0) ∧ (¬ (nI l) ≤ (nI i) → xG tb_R_semicolon Q (13, [some (.ref 22), some (.int (nI t)), some (.int s), some (.int (nI l)), some (.int (nI i))], [.int (nI i), .int (nI t), .ref 22], (HX I A B), 0)))
    exact br_y (nI_le (by omega) (by omega)) hq
  | k + 1, i, e, hq => by
    refine xG.go [3, 13] 60 ?_
    show (((nI l) ≤ (nI i) → Q (.inl (some (.int (nI i)))) (HX I A B) 0) ∧ (¬ (nI l) ≤ (nI i) → xG tb_R_semicolon Q (13, [some (.ref 22), some (.int (nI t)), some (.int s), some (.int (nI l)), some (.int (nI i))], [.int (nI i), .int (nI t), .ref 22], (HX I A B), 0)))
    refine br_n (nI_ge (by omega) (by omega)) ?_
    refine xG.callV (F := xRun tb_R_textChar 3) (a := 22) rfl rfl rfl rfl (p_R_textChar h hR ht h1 (by omega) ?_)
    refine xG.go [3, 13] 60 ?_
    show (((nI (tcr g t i)) = (59 : Int32) → Q (.inl (some (.int (nI i)))) (HX I A B) 0) ∧ (¬ (nI (tcr g t i)) = (59 : Int32) → xG tb_R_semicolon Q (3, [some (.ref 22), some (.int (nI t)), some (.int s), some (.int (nI l)), some (.int ((nI i) + (1 : Int32)))], [], (HX I A B), 0)))
    have hg : tcr g t i < 256 := h.2.2.1 _
    rw [nI_1]
    unfold smF at hq
    refine ⟨fun z => ?_, fun z => ?_⟩
    · rw [if_pos ((nI_eq (b := 59) (by omega) (by omega)).mp z)] at hq
      exact hq
    · rw [if_neg (fun w => z (by rw [w]; rfl))] at hq
      exact p_R_semi_l h hR ht h1 hl k (i + 1) (by omega) hq
theorem p_R_semicolon {I : Nat → Int32} {A : Nat → Nat → Int32} {B : Nat → Nat → Int64} {Q : xQ} {sz t T l i : Nat} {g : Nat → Nat} (h : BY I A sz g) (hR : RSt A g T) (ht : t ≤ T) (h1 : 1 ≤ t) (hl : l < 256) (hi : i ≤ l) (hq : Q (.inl (some (.int (nI (smF (tcr g t) (l - i) i))))) (HX I A B) 0) : xRun tb_R_semicolon 5 [.ref 22, .int (nI t), .int (nI i), .int (nI l)] (HX I A B) Q := by
  refine ⟨Nat.le_of_ble_eq_true rfl, ?_⟩
  refine xG.go [3, 13] 20 ?_
  show xG tb_R_semicolon Q (3, [some (.ref 22), some (.int (nI t)), some (.int (nI i)), some (.int (nI l)), some (.int (nI i))], [], (HX I A B), 0)
  exact p_R_semi_l h hR ht h1 hl (l - i) i (by omega) hq
theorem smF_spec {c : Nat → Nat} : ∀ (k i : Nat), i ≤ smF c k i ∧ smF c k i ≤ i + k ∧ (∀ j, i ≤ j → j < smF c k i → ¬ c j = 59) ∧ (smF c k i < i + k → c (smF c k i) = 59)
  | 0, i => ⟨Nat.le_refl i, Nat.le_refl i, fun j h1 h2 => by unfold smF at h2; omega, fun h => by unfold smF at h; omega⟩
  | k + 1, i => by
    unfold smF
    by_cases w : c i = 59
    · rw [if_pos w]
      exact ⟨Nat.le_refl i, by omega, fun j h1 h2 => by omega, fun _ => w⟩
    · rw [if_neg w]
      obtain ⟨a, b, d, e⟩ := smF_spec (c := c) k (i + 1)
      refine ⟨by omega, by omega, fun j h1 h2 => ?_, fun q => e (by omega)⟩
      by_cases z : j = i
      · rw [z]; exact w
      · exact d j (by omega) h2
theorem clN_r {f : Nat → Int64} {t : Int64} : ∀ (k c : Nat), clN f t k c = -1 ∨ ∃ j, c ≤ j ∧ j < c + k ∧ clN f t k c = nI j
  | 0, c => Or.inl rfl
  | k + 1, c => by
    unfold clN
    by_cases w : f c = t
    · rw [if_pos w]
      exact Or.inr ⟨c, Nat.le_refl c, by omega, rfl⟩
    · rw [if_neg w]
      rcases clN_r (f := f) (t := t) k (c + 1) with q | ⟨j, q1, q2, q3⟩
      · exact Or.inl q
      · exact Or.inr ⟨j, by omega, by omega, q3⟩
