-- the reference's reader
abbrev MY (I : Nat → Int32) (A : Nat → Nat → Int32) (sz : Nat) (g : Nat → Nat) : Prop :=
  I 11 = nI sz ∧ sz ≤ 480 ∧ (∀ i, g i < 256) ∧ (∀ i, i < sz → A 35 i = nI (g i))
def mn (g : Nat → Nat) (sz a : Nat) : Int32 := if a < sz then nI (g a) else -1
theorem p_M_next {I : Nat → Int32} {A : Nat → Nat → Int32} {B : Nat → Nat → Int64} {Q : xQ} {sz a : Nat} {g : Nat → Nat} (h : MY I A sz g) (ea : I 15 = nI a) (ha : a < 2 ^ 30) (hq : Q (.inl (some (.int (mn g sz a)))) (HX (va_up I 15 (nI (a + 1))) A B) 0) : xRun tb_M_next 1 [.ref 24] (HX I A B) Q := by
  obtain ⟨h1, h2, h3, h4⟩ := h
  refine ⟨Nat.le_of_ble_eq_true rfl, ?_⟩
  refine xG.go [] 60 ?_
  show (((I 11) < ((I 15) + (1 : Int32)) → Q (.inl (some (.int (-1 : Int32)))) (HX (va_up I 15 ((I 15) + (1 : Int32))) A B) 0) ∧ (¬ (I 11) < ((I 15) + (1 : Int32)) → (vp_in (((I 15) + (1 : Int32)) - (1 : Int32)) 480 ∧ Q (.inl (some (.int ((A 35) (((I 15) + (1 : Int32)) - (1 : Int32)).toNatClampNeg)))) (HX (va_up I 15 ((I 15) + (1 : Int32))) A B) 0)))
  rw [ea, nI_1, h1, nI_pred, nI_clamp (by omega)]
  unfold mn at hq
  refine ⟨fun z => ?_, fun z => ?_⟩
  · have w : ¬ a < sz := fun w => nI_nlt (a := sz) (b := a + 1) (by omega) (by omega) z
    rw [if_neg w] at hq
    exact hq
  · have w : a < sz := by
      rcases Nat.lt_or_ge a sz with w | w
      · exact w
      · exact absurd (nI_lt (a := sz) (b := a + 1) (by omega) (by omega)) z
    rw [if_pos w] at hq
    rw [h4 a w]
    exact ⟨vp_in_nI (by omega) (by omega), hq⟩
/-- the first p texts of the bytes stand in the pool -/
abbrev MT (I : Nat → Int32) (A : Nat → Nat → Int32) (g : Nat → Nat) (p : Nat) : Prop :=
  I 13 = nI p ∧ ∀ q, q < p → (A 38 q = nI (g (sp g q)) ∧ g (sp g q) ≤ 62) ∧ ∀ i, i < g (sp g q) → A 37 (64 * q + i) = nI (tcr g (q + 1) i)
/-- what a file has at its beginning -/
abbrev PT (g : Nat → Nat) (sz : Nat) : Prop := (0 < sz ∧ g 0 = 202) ∧ (1 < sz ∧ 1 ≤ g 1 ∧ g 1 ≤ 14) ∧ sp g (g 1) ≤ sz ∧ ∀ q, q < g 1 → 1 ≤ g (sp g q) ∧ g (sp g q) ≤ 62
theorem sp_mono {g : Nat → Nat} {p q : Nat} (h : p ≤ q) : sp g p ≤ sp g q := by
  induction q with
  | zero =>
    have e : p = 0 := by omega
    rw [e]
    exact Nat.le_refl _
  | succ q ih =>
    by_cases w : p = q + 1
    · rw [w]; exact Nat.le_refl _
    · have := ih (by omega)
      show _ ≤ sp g q + 1 + g (sp g q)
      omega
theorem p_M_rp_i {I : Nat → Int32} {A : Nat → Nat → Int32} {B : Nat → Nat → Int64} {Q : xQ} {sz p : Nat} {x1 : Int32} {g : Nat → Nat} (h : MY I A sz g) (hp : p < 14) (e13 : I 13 = nI p) (hm : g (sp g p) ≤ 62) (hsz : sp g p + 1 + g (sp g p) ≤ sz) (hK : ∀ f, (∀ j, j < 64 * p → f j = A 37 j) → (∀ i, i < g (sp g p) → f (64 * p + i) = nI (tcr g (p + 1) i)) → xG tb_M_readPool Q (110, [some (.ref 24), some (.int x1), some (.int (nI (g (sp g p)))), some (.int (nI (g (sp g p))))], [], HX (va_up I 15 (nI (sp g p + 1 + g (sp g p)))) (va_up A 37 f) B, 0)) : ∀ (k i : Nat) (f : Nat → Int32), i + k = g (sp g p) → (∀ j, j < 64 * p → f j = A 37 j) → (∀ x, x < i → f (64 * p + x) = nI (tcr g (p + 1) x)) → xG tb_M_readPool Q (81, [some (.ref 24), some (.int x1), some (.int (nI (g (sp g p)))), some (.int (nI i))], [], HX (va_up I 15 (nI (sp g p + 1 + i))) (va_up A 37 f) B, 0)
  | 0, i, f, e, h1, h2 => by
    refine xG.go [6, 18, 49, 81, 100, 110] 60 ?_
    show (((nI (g (sp g p))) ≤ (nI i) → xG tb_M_readPool Q (110, [some (.ref 24), some (.int x1), some (.int (nI (g (sp g p)))), some (.int (nI i))], [], (HX (va_up I 15 (nI (sp g p + 1 + i))) (va_up A 37 f) B), 0)) ∧ (¬ (nI (g (sp g p))) ≤ (nI i) → xG tb_M_readPool Q (100, [some (.ref 24), some (.int x1), some (.int (nI (g (sp g p)))), some (.int (nI i))], [.ref 24, .int (((64 : Int32) * (I 13)) + (nI i)), .ref 37], (HX (va_up I 15 (nI (sp g p + 1 + i))) (va_up A 37 f) B), 0)))
    obtain rfl : i = g (sp g p) := by omega
    exact br_y (nI_le (by omega) (by omega)) (hK f h1 h2)
  | k + 1, i, f, e, h1, h2 => by
    have hz := h.2.1
    refine xG.go [6, 18, 49, 81, 100, 110] 60 ?_
    show (((nI (g (sp g p))) ≤ (nI i) → xG tb_M_readPool Q (110, [some (.ref 24), some (.int x1), some (.int (nI (g (sp g p)))), some (.int (nI i))], [], (HX (va_up I 15 (nI (sp g p + 1 + i))) (va_up A 37 f) B), 0)) ∧ (¬ (nI (g (sp g p))) ≤ (nI i) → xG tb_M_readPool Q (100, [some (.ref 24), some (.int x1), some (.int (nI (g (sp g p)))), some (.int (nI i))], [.ref 24, .int (((64 : Int32) * (I 13)) + (nI i)), .ref 37], (HX (va_up I 15 (nI (sp g p + 1 + i))) (va_up A 37 f) B), 0)))
    rw [e13, n64]
    refine br_n (nI_ge (by omega) (by omega)) ?_
    refine xG.callV (F := xRun tb_M_next 1) (a := 24) rfl rfl rfl rfl (p_M_next (I := va_up I 15 (nI (sp g p + 1 + i))) (A := va_up A 37 f) h rfl (by omega) ?_)
    rw [up_up, show mn g sz (sp g p + 1 + i) = nI (g (sp g p + 1 + i)) from if_pos (by omega)]
    refine xG.go [6, 18, 49, 81, 100, 110] 60 ?_
    show (vp_in (nI (64 * p + i)) 960 ∧ xG tb_M_readPool Q (81, [some (.ref 24), some (.int x1), some (.int (nI (g (sp g p)))), some (.int ((nI i) + (1 : Int32)))], [], (HX (va_up I 15 (nI (sp g p + 1 + i + 1))) (va_up A 37 (upd f (nI (64 * p + i)).toNatClampNeg (nI (g (sp g p + 1 + i))))) B), 0))
    rw [nI_clamp (by omega), nI_1]
    refine ⟨vp_in_nI (by omega) (by omega), p_M_rp_i h hp e13 hm hsz hK k (i + 1) _ (by omega) (fun j hj => ?_) (fun x hx => ?_)⟩
    · rw [pk_un (by omega)]
      exact h1 j hj
    · by_cases w : x = i
      · rw [w, pk_us]
        rfl
      · rw [pk_un (by omega)]
        exact h2 x (by omega)
theorem p_M_rp_l {I : Nat → Int32} {A : Nat → Nat → Int32} {B : Nat → Nat → Int64} {Q : xQ} {sz : Nat} {g : Nat → Nat} (h : MY I A sz g) (hT : g 1 ≤ 14) (hno : ¬ PT g sz → ∀ I' A', (∀ j, ¬ (j = 13 ∨ j = 15) → I' j = I j) → (∀ r, ¬ (r = 37 ∨ r = 38) → A' r = A r) → Q (.inl (some (.int 0))) (HX I' A' B) 0) (hyes : ∀ I' A', (∀ j, ¬ (j = 13 ∨ j = 15) → I' j = I j) → (∀ r, ¬ (r = 37 ∨ r = 38) → A' r = A r) → MT I' A' g (g 1) → I' 15 = nI (sp g (g 1)) → Q (.inl (some (.int 1))) (HX I' A' B) 0) : ∀ (k p : Nat) (I' : Nat → Int32) (A' : Nat → Nat → Int32) (w2 w3 : Option Value), p + k = g 1 → (∀ j, ¬ (j = 13 ∨ j = 15) → I' j = I j) → (∀ r, ¬ (r = 37 ∨ r = 38) → A' r = A r) → MT I' A' g p → I' 15 = nI (sp g p) → sp g p ≤ sz → xG tb_M_readPool Q (40, [some (.ref 24), some (.int (nI (g 1))), w2, w3], [], HX I' A' B, 0)
  | 0, p, I', A', w2, w3, e, k1, k2, hM, e15, hs => by
    refine xG.go [6, 18, 40, 49, 100] 60 ?_
    show (((nI (g 1)) ≤ (I' 13) → (((1 : Int32) = (0 : Int32) ∨ (1 : Int32) = 1) ∧ Q (.inl (some (.int (1 : Int32)))) (HX I' A' B) 0)) ∧ (¬ (nI (g 1)) ≤ (I' 13) → xG tb_M_readPool Q (49, [some (.ref 24), some (.int (nI (g 1))), w2, w3], [.ref 24], (HX I' A' B), 0)))
    rw [hM.1]
    obtain rfl : p = g 1 := by omega
    exact br_y (nI_le (by omega) (by omega)) ⟨Or.inr rfl, hyes I' A' k1 k2 hM e15⟩
  | k + 1, p, I', A', w2, w3, e, k1, k2, hM, e15, hs => by
    have hz := h.2.1
    have hgp := h.2.2.1 (sp g p)
    have hMY : MY I' A' sz g := ⟨(k1 11 (by omega)).trans h.1, h.2.1, h.2.2.1, fun i hi => by rw [k2 35 (by omega)]; exact h.2.2.2 i hi⟩
    refine xG.go [6, 18, 40, 49, 100] 60 ?_
    show (((nI (g 1)) ≤ (I' 13) → (((1 : Int32) = (0 : Int32) ∨ (1 : Int32) = 1) ∧ Q (.inl (some (.int (1 : Int32)))) (HX I' A' B) 0)) ∧ (¬ (nI (g 1)) ≤ (I' 13) → xG tb_M_readPool Q (49, [some (.ref 24), some (.int (nI (g 1))), w2, w3], [.ref 24], (HX I' A' B), 0)))
    rw [hM.1]
    refine br_n (nI_ge (by omega) (by omega)) ?_
    refine xG.callV (F := xRun tb_M_next 1) (a := 24) rfl rfl rfl rfl (p_M_next hMY e15 (by omega) ?_)
    have bad : ¬ (1 ≤ g (sp g p) ∧ g (sp g p) ≤ 62 ∧ sp g p + 1 + g (sp g p) ≤ sz) → ¬ PT g sz := fun w q => by
      have q1 := q.2.2.2 p (by omega)
      have q2 : sp g (p + 1) ≤ sp g (g 1) := sp_mono (by omega)
      have q3 : sp g (p + 1) = sp g p + 1 + g (sp g p) := rfl
      exact w ⟨q1.1, q1.2, by have := q.2.2.1; omega⟩
    have noQ : ¬ PT g sz → (((0 : Int32) = (0 : Int32) ∨ (0 : Int32) = 1) ∧ Q (.inl (some (.int 0))) (HX (va_up I' 15 (nI (sp g p + 1))) A' B) 0) := fun w => ⟨Or.inl rfl, hno w _ _ (fun j hj => (up_n (fun q => hj (by omega))).trans (k1 j hj)) k2⟩
    by_cases wr : sp g p < sz
    · rw [show mn g sz (sp g p) = nI (g (sp g p)) from if_pos wr]
      refine xG.go [6, 18, 40, 49, 81, 100] 60 ?_
      show (((nI (g (sp g p))) < (1 : Int32) → (((0 : Int32) = (0 : Int32) ∨ (0 : Int32) = 1) ∧ Q (.inl (some (.int (0 : Int32)))) (HX (va_up I' 15 (nI (sp g p + 1))) A' B) 0)) ∧ (¬ (nI (g (sp g p))) < (1 : Int32) → (((62 : Int32) < (nI (g (sp g p))) → (((0 : Int32) = (0 : Int32) ∨ (0 : Int32) = 1) ∧ Q (.inl (some (.int (0 : Int32)))) (HX (va_up I' 15 (nI (sp g p + 1))) A' B) 0)) ∧ (¬ (62 : Int32) < (nI (g (sp g p))) → ((((nI (sp g p + 1)) + (nI (g (sp g p)))) ≤ (I' 11) → xG tb_M_readPool Q (81, [some (.ref 24), some (.int (nI (g 1))), some (.int (nI (g (sp g p)))), some (.int (0 : Int32))], [], (HX (va_up I' 15 (nI (sp g p + 1))) A' B), 0)) ∧ (¬ ((nI (sp g p + 1)) + (nI (g (sp g p)))) ≤ (I' 11) → (((0 : Int32) = (0 : Int32) ∨ (0 : Int32) = 1) ∧ Q (.inl (some (.int (0 : Int32)))) (HX (va_up I' 15 (nI (sp g p + 1))) A' B) 0)))))))
      rw [k1 11 (by omega), h.1, nI_add]
      refine ⟨fun z => noQ (bad (fun q => nI_nlt (b := 1) q.1 (by omega) z)), fun z => ⟨fun z1 => noQ (bad (fun q => nI_nlt (a := 62) (by omega) (by omega) z1)), fun z1 => ⟨fun z2 => ?_, fun z2 => noQ (bad (fun q => z2 (nI_le (by omega) (by omega))))⟩⟩⟩
      have c1 : 1 ≤ g (sp g p) := by
        rcases Nat.lt_or_ge (g (sp g p)) 1 with q | q
        · exact absurd (nI_lt (b := 1) q (by omega)) z
        · exact q
      have c2 : g (sp g p) ≤ 62 := by
        rcases Nat.lt_or_ge 62 (g (sp g p)) with q | q
        · exact absurd (nI_lt (a := 62) q (by omega)) z1
        · exact q
      have c3 : sp g p + 1 + g (sp g p) ≤ sz := by
        rcases Nat.lt_or_ge sz (sp g p + 1 + g (sp g p)) with q | q
        · exact absurd z2 (nI_ge q (by omega))
        · exact q
      have go := p_M_rp_i (I := I') (A := A') (B := B) (Q := Q) (x1 := nI (g 1)) hMY (by omega) hM.1 c2 c3 (fun f f1 f2 => ?_) (g (sp g p)) 0 (A' 37) (Nat.zero_add _) (fun _ _ => rfl) (fun x hx => by omega)
      · rw [up_same] at go
        exact go
      · refine xG.go [6, 18, 40, 49, 100] 60 ?_
        show (vp_in (I' 13) 15 ∧ xG tb_M_readPool Q (40, [some (.ref 24), some (.int (nI (g 1))), some (.int (nI (g (sp g p)))), some (.int (nI (g (sp g p))))], [], (HX (va_up (va_up I' 15 (nI (sp g p + 1 + g (sp g p)))) 13 ((I' 13) + (1 : Int32))) (va_up (va_up A' 37 f) 38 (upd (A' 38) (I' 13).toNatClampNeg (nI (g (sp g p))))) B), 0))
        rw [hM.1, nI_clamp (by omega), nI_1]
        refine ⟨vp_in_nI (by omega) (by omega), p_M_rp_l h hT hno hyes k (p + 1) _ _ _ _ (by omega) (fun j hj => ?_) (fun r hr => ?_) ⟨rfl, fun q hq => ?_⟩ rfl c3⟩
        · rw [up_n (fun q => hj (by omega)), up_n (fun q => hj (by omega))]
          exact k1 j hj
        · rw [up_n (fun q => hr (by omega)), up_n (fun q => hr (by omega))]
          exact k2 r hr
        · show (upd (A' 38) p (nI (g (sp g p))) q = _ ∧ _) ∧ ∀ i, i < g (sp g q) → f (64 * q + i) = _
          by_cases w : q = p
          · subst w
            rw [pk_us]
            exact ⟨⟨rfl, c2⟩, f2⟩
          · rw [pk_un w]
            obtain ⟨⟨m1, m2⟩, m3⟩ := hM.2 q (by omega)
            exact ⟨⟨m1, m2⟩, fun i hi => (f1 _ (by omega)).trans (m3 i hi)⟩
    · rw [show mn g sz (sp g p) = -1 from if_neg wr]
      refine xG.go [6, 18, 40, 49, 81, 100] 60 ?_
      show (((-1 : Int32) < (1 : Int32) → (((0 : Int32) = (0 : Int32) ∨ (0 : Int32) = 1) ∧ Q (.inl (some (.int (0 : Int32)))) (HX (va_up I' 15 (nI (sp g p + 1))) A' B) 0)) ∧ (¬ (-1 : Int32) < (1 : Int32) → (((62 : Int32) < (-1 : Int32) → (((0 : Int32) = (0 : Int32) ∨ (0 : Int32) = 1) ∧ Q (.inl (some (.int (0 : Int32)))) (HX (va_up I' 15 (nI (sp g p + 1))) A' B) 0)) ∧ (¬ (62 : Int32) < (-1 : Int32) → ((((nI (sp g p + 1)) + (-1 : Int32)) ≤ (I' 11) → xG tb_M_readPool Q (81, [some (.ref 24), some (.int (nI (g 1))), some (.int (-1 : Int32)), some (.int (0 : Int32))], [], (HX (va_up I' 15 (nI (sp g p + 1))) A' B), 0)) ∧ (¬ ((nI (sp g p + 1)) + (-1 : Int32)) ≤ (I' 11) → (((0 : Int32) = (0 : Int32) ∨ (0 : Int32) = 1) ∧ Q (.inl (some (.int (0 : Int32)))) (HX (va_up I' 15 (nI (sp g p + 1))) A' B) 0)))))))
      exact br_y (by decide) (noQ (bad (fun q => wr (by omega))))
theorem p_M_readPool {I : Nat → Int32} {A : Nat → Nat → Int32} {B : Nat → Nat → Int64} {Q : xQ} {sz : Nat} {g : Nat → Nat} (h : MY I A sz g) (hno : ¬ PT g sz → ∀ I' A', (∀ j, ¬ (j = 13 ∨ j = 15) → I' j = I j) → (∀ r, ¬ (r = 37 ∨ r = 38) → A' r = A r) → Q (.inl (some (.int 0))) (HX I' A' B) 0) (hyes : 1 ≤ g 1 → g 1 ≤ 14 → ∀ I' A', (∀ j, ¬ (j = 13 ∨ j = 15) → I' j = I j) → (∀ r, ¬ (r = 37 ∨ r = 38) → A' r = A r) → MT I' A' g (g 1) → I' 15 = nI (sp g (g 1)) → Q (.inl (some (.int 1))) (HX I' A' B) 0) : xRun tb_M_readPool 4 [.ref 24] (HX I A B) Q := by
  have hz := h.2.1
  have hg0 := h.2.2.1 0
  have hg1 := h.2.2.1 1
  have noQ : ∀ x, ¬ PT g sz → (((0 : Int32) = (0 : Int32) ∨ (0 : Int32) = 1) ∧ Q (.inl (some (.int 0))) (HX (va_up I 15 x) A B) 0) := fun x w => ⟨Or.inl rfl, hno w _ _ (fun j hj => up_n (fun q => hj (by omega))) (fun _ _ => rfl)⟩
  refine ⟨Nat.le_of_ble_eq_true rfl, ?_⟩
  refine xG.go [6, 18, 40, 49, 100] 60 ?_
  show xG tb_M_readPool Q (6, [some (.ref 24), none, none, none], [.ref 24], (HX (va_up I 15 (0 : Int32)) A B), 0)
  refine xG.callV (F := xRun tb_M_next 1) (a := 24) rfl rfl rfl rfl (p_M_next (I := va_up I 15 0) (a := 0) h rfl (by omega) ?_)
  rw [up_up]
  by_cases w0 : 0 < sz ∧ g 0 = 202
  · rw [show mn g sz 0 = 202 from (if_pos w0.1).trans (by rw [w0.2]; rfl)]
    refine xG.go [6, 18, 40, 49, 100] 60 ?_
    show (((202 : Int32) = (202 : Int32) → xG tb_M_readPool Q (18, [some (.ref 24), none, none, none], [.ref 24], (HX (va_up I 15 (nI (0 + 1))) A B), 0)) ∧ (¬ (202 : Int32) = (202 : Int32) → (((0 : Int32) = (0 : Int32) ∨ (0 : Int32) = 1) ∧ Q (.inl (some (.int (0 : Int32)))) (HX (va_up I 15 (nI (0 + 1))) A B) 0)))
    refine br_y rfl ?_
    refine xG.callV (F := xRun tb_M_next 1) (a := 24) rfl rfl rfl rfl (p_M_next (I := va_up I 15 (nI (0 + 1))) (a := 1) h rfl (by omega) ?_)
    rw [up_up]
    by_cases w1 : 1 < sz
    · rw [show mn g sz 1 = nI (g 1) from if_pos w1]
      refine xG.go [6, 18, 40, 49, 100] 60 ?_
      show (((nI (g 1)) < (1 : Int32) → (((0 : Int32) = (0 : Int32) ∨ (0 : Int32) = 1) ∧ Q (.inl (some (.int (0 : Int32)))) (HX (va_up I 15 (nI (1 + 1))) A B) 0)) ∧ (¬ (nI (g 1)) < (1 : Int32) → (((nI (g 1)) ≤ (14 : Int32) → xG tb_M_readPool Q (40, [some (.ref 24), some (.int (nI (g 1))), none, none], [], (HX (va_up (va_up I 15 (nI (1 + 1))) 13 (0 : Int32)) A B), 0)) ∧ (¬ (nI (g 1)) ≤ (14 : Int32) → (((0 : Int32) = (0 : Int32) ∨ (0 : Int32) = 1) ∧ Q (.inl (some (.int (0 : Int32)))) (HX (va_up I 15 (nI (1 + 1))) A B) 0)))))
      refine ⟨fun z => noQ _ (fun q => nI_nlt (b := 1) q.2.1.2.1 (by omega) z), fun z => ⟨fun z1 => ?_, fun z1 => noQ _ (fun q => z1 (nI_le (b := 14) q.2.1.2.2 (by omega)))⟩⟩
      have c1 : 1 ≤ g 1 := by
        rcases Nat.lt_or_ge (g 1) 1 with q | q
        · exact absurd (nI_lt (b := 1) q (by omega)) z
        · exact q
      have c2 : g 1 ≤ 14 := by
        rcases Nat.lt_or_ge 14 (g 1) with q | q
        · exact absurd z1 (nI_ge (a := 14) q (by omega))
        · exact q
      exact p_M_rp_l h c2 hno (hyes c1 c2) (g 1) 0 _ A _ _ (Nat.zero_add _) (fun j hj => by rw [up_n (fun q => hj (by omega)), up_n (fun q => hj (by omega))]) (fun _ _ => rfl) ⟨rfl, fun q hq => by omega⟩ rfl (by show 2 ≤ sz; omega)
    · rw [show mn g sz 1 = -1 from if_neg w1]
      refine xG.go [6, 18, 40, 49, 100] 60 ?_
      show (((-1 : Int32) < (1 : Int32) → (((0 : Int32) = (0 : Int32) ∨ (0 : Int32) = 1) ∧ Q (.inl (some (.int (0 : Int32)))) (HX (va_up I 15 (nI (1 + 1))) A B) 0)) ∧ (¬ (-1 : Int32) < (1 : Int32) → (((-1 : Int32) ≤ (14 : Int32) → xG tb_M_readPool Q (40, [some (.ref 24), some (.int (-1 : Int32)), none, none], [], (HX (va_up (va_up I 15 (nI (1 + 1))) 13 (0 : Int32)) A B), 0)) ∧ (¬ (-1 : Int32) ≤ (14 : Int32) → (((0 : Int32) = (0 : Int32) ∨ (0 : Int32) = 1) ∧ Q (.inl (some (.int (0 : Int32)))) (HX (va_up I 15 (nI (1 + 1))) A B) 0)))))
      exact br_y (by decide) (noQ _ (fun q => w1 q.2.1.1))
  · have hne : ¬ mn g sz 0 = 202 := fun q => by
      unfold mn at q
      by_cases w : 0 < sz
      · rw [if_pos w] at q
        exact w0 ⟨w, (nI_eq (b := 202) (by omega) (by omega)).mp q⟩
      · rw [if_neg w] at q
        exact absurd q (by decide)
    generalize mn g sz 0 = v at hne ⊢
    refine xG.go [6, 18, 40, 49, 100] 60 ?_
    show ((v = (202 : Int32) → xG tb_M_readPool Q (18, [some (.ref 24), none, none, none], [.ref 24], (HX (va_up I 15 (nI (0 + 1))) A B), 0)) ∧ (¬ v = (202 : Int32) → (((0 : Int32) = (0 : Int32) ∨ (0 : Int32) = 1) ∧ Q (.inl (some (.int (0 : Int32)))) (HX (va_up I 15 (nI (0 + 1))) A B) 0)))
    exact br_n hne (noQ _ (fun q => w0 q.1))
theorem n64b {t i : Nat} (ht : 1 ≤ t) : (64 : Int32) * nI t - 64 + nI i = nI (64 * (t - 1) + i) := by
  have e : nI t = nI (t - 1) + 1 := by rw [nI_1, show t - 1 + 1 = t by omega]
  have e2 : (64 : Int32) * (nI (t - 1) + 1) - 64 = 64 * nI (t - 1) := by
    rw [Int32.mul_add, Int32.mul_one, Int32.add_sub_cancel]
  rw [e, e2, n64]
theorem p_M_text_l {I : Nat → Int32} {A : Nat → Nat → Int32} {B : Nat → Nat → Int64} {Q : xQ} {t T : Nat} {g : Nat → Nat} (hg : ∀ i, g i < 256) (hM : MT I A g T) (hT : T ≤ 14) (h1 : 1 ≤ t) (ht : t ≤ T) (hl : tl g t ≤ 8) : ∀ (k i : Nat) (r : Int64), i + k = tl g t → Q (.inl (some (.long (pkF (fun j => nI (tcr g t j)) k i r)))) (HX I A B) 0 → xG tb_M_textOf Q (33, [some (.ref 24), some (.int (nI t)), some (.long r), none, some (.int (nI i))], [], (HX I A B), 0)
  | 0, i, r, e, hq => by
    obtain ⟨⟨m1, m2⟩, m3⟩ := hM.2 (t - 1) (by omega)
    have et : tl g t = g (sp g (t - 1)) := if_neg (by omega)
    rw [show t - 1 + 1 = t by omega] at m3
    have ep : nI t - 1 = nI (t - 1) := by
      have := nI_pred (t - 1)
      rw [show t - 1 + 1 = t by omega] at this
      exact this
    refine xG.go [33] 60 ?_
    show (vp_in ((nI t) - (1 : Int32)) 15 ∧ ((((A 38) ((nI t) - (1 : Int32)).toNatClampNeg) ≤ (nI i) → Q (.inl (some (.long r))) (HX I A B) 0) ∧ (¬ ((A 38) ((nI t) - (1 : Int32)).toNatClampNeg) ≤ (nI i) → (vp_in ((((64 : Int32) * (nI t)) - (64 : Int32)) + (nI i)) 960 ∧ xG tb_M_textOf Q (33, [some (.ref 24), some (.int (nI t)), some (.long (r ||| (xshl ((A 37) ((((64 : Int32) * (nI t)) - (64 : Int32)) + (nI i)).toNatClampNeg).toInt64 ((8 : Int32) * (nI i))))), none, some (.int ((nI i) + (1 : Int32)))], [], (HX I A B), 0)))))
    rw [ep, nI_clamp (by omega), m1, ← et]
    exact ⟨vp_in_nI (by omega) (by omega), br_y (nI_le (by omega) (by omega)) hq⟩
  | k + 1, i, r, e, hq => by
    obtain ⟨⟨m1, m2⟩, m3⟩ := hM.2 (t - 1) (by omega)
    have et : tl g t = g (sp g (t - 1)) := if_neg (by omega)
    rw [show t - 1 + 1 = t by omega] at m3
    have ep : nI t - 1 = nI (t - 1) := by
      have := nI_pred (t - 1)
      rw [show t - 1 + 1 = t by omega] at this
      exact this
    refine xG.go [33] 60 ?_
    show (vp_in ((nI t) - (1 : Int32)) 15 ∧ ((((A 38) ((nI t) - (1 : Int32)).toNatClampNeg) ≤ (nI i) → Q (.inl (some (.long r))) (HX I A B) 0) ∧ (¬ ((A 38) ((nI t) - (1 : Int32)).toNatClampNeg) ≤ (nI i) → (vp_in ((((64 : Int32) * (nI t)) - (64 : Int32)) + (nI i)) 960 ∧ xG tb_M_textOf Q (33, [some (.ref 24), some (.int (nI t)), some (.long (r ||| (xshl ((A 37) ((((64 : Int32) * (nI t)) - (64 : Int32)) + (nI i)).toNatClampNeg).toInt64 ((8 : Int32) * (nI i))))), none, some (.int ((nI i) + (1 : Int32)))], [], (HX I A B), 0)))))
    rw [ep, nI_clamp (by omega), m1, ← et, n64b h1, nI_clamp (by omega), m3 i (by omega), nI_1]
    exact ⟨vp_in_nI (by omega) (by omega), br_n (nI_ge (by omega) (by omega)) ⟨vp_in_nI (by omega) (by omega), p_M_text_l hg hM hT h1 ht hl k (i + 1) _ (by omega) hq⟩⟩
/-- the text of a number, or the empty one -/
theorem p_M_textOf {I : Nat → Int32} {A : Nat → Nat → Int32} {B : Nat → Nat → Int64} {Q : xQ} {T : Nat} {x : Int32} {g : Nat → Nat} (hg : ∀ i, g i < 256) (hM : MT I A g T) (hT : T ≤ 14) (hQ : ∀ v, (∀ t s, 1 ≤ t → t ≤ T → x = nI t → txt g t = tx s → v = s) → Q (.inl (some (.long v))) (HX I A B) 0) : xRun tb_M_textOf 5 [.ref 24, .int x] (HX I A B) Q := by
  refine ⟨Nat.le_of_ble_eq_true rfl, ?_⟩
  refine xG.go [33] 60 ?_
  show ((x < (1 : Int32) → Q (.inl (some (.long (0 : Int64)))) (HX I A B) 0) ∧ (¬ x < (1 : Int32) → (((I 13) < x → Q (.inl (some (.long (0 : Int64)))) (HX I A B) 0) ∧ (¬ (I 13) < x → (vp_in (x - (1 : Int32)) 15 ∧ ((((A 38) (x - (1 : Int32)).toNatClampNeg) ≤ (8 : Int32) → xG tb_M_textOf Q (33, [some (.ref 24), some (.int x), some (.long (0 : Int64)), none, some (.int (0 : Int32))], [], (HX I A B), 0)) ∧ (¬ ((A 38) (x - (1 : Int32)).toNatClampNeg) ≤ (8 : Int32) → Q (.inl (some (.long (0 : Int64)))) (HX I A B) 0)))))))
  rw [hM.1]
  refine ⟨fun z => hQ 0 (fun t s h1 h2 e _ => ?_), fun z => ⟨fun z1 => hQ 0 (fun t s h1 h2 e _ => ?_), fun z1 => ?_⟩⟩
  · rw [e] at z
    exact absurd z (nI_nlt (b := 1) h1 (by omega))
  · rw [e] at z1
    exact absurd z1 (nI_nlt h2 (by omega))
  · obtain ⟨t, h1, h2, rfl⟩ : ∃ t, 1 ≤ t ∧ t ≤ T ∧ x = nI t := by
      have h0 : ¬ x < 0 := fun q => z (Int32.lt_trans q (by decide))
      have hc : isC (nI (T + 1)) x = true := by
        unfold isC
        rw [if_neg h0, if_neg (fun q => z1 (Int32.lt_of_lt_of_le (nI_lt (a := T) (b := T + 1) (by omega) (by omega)) q))]
      obtain ⟨t, ht, e⟩ := isC_ix (by omega) hc
      refine ⟨t, ?_, by omega, e⟩
      rcases Nat.eq_zero_or_pos t with q | q
      · rw [e, q] at z
        exact absurd (by decide : nI 0 < 1) z
      · exact q
    obtain ⟨⟨m1, m2⟩, m3⟩ := hM.2 (t - 1) (by omega)
    have et : tl g t = g (sp g (t - 1)) := if_neg (by omega)
    have ep : nI t - 1 = nI (t - 1) := by
      have := nI_pred (t - 1)
      rw [show t - 1 + 1 = t by omega] at this
      exact this
    have key : ∀ s, txt g t = tx s → sT g t = s := fun s hs => sT_tx hs
    rw [ep, nI_clamp (by omega), m1, ← et]
    refine ⟨vp_in_nI (by omega) (by omega), fun z2 => ?_, fun z2 => hQ 0 (fun t' s _ h2' e hs => ?_)⟩
    · have h8 : ¬ 8 < tl g t := fun q => nI_ge (a := 8) q (by omega) z2
      refine p_M_text_l hg hM hT h1 h2 (by omega) (tl g t) 0 0 (Nat.zero_add _) (hQ _ (fun t' s _ h2' e hs => ?_))
      obtain rfl : t = t' := (nI_eq (by omega) (by omega)).mp e
      have := key s hs
      unfold sT at this
      rw [if_neg h8] at this
      exact this
    · obtain rfl : t = t' := (nI_eq (by omega) (by omega)).mp e
      have e3 : tl g t = tlen s := rd_inj_len hs
      have := tlen_le s
      exact absurd (nI_le (b := 8) (by omega) (by omega)) z2
