-- the reference's reader: descriptors
theorem lsN_r {f : Nat → Int64} {t : Int64} : ∀ (k c : Nat) (a : Int32), lsN f t k c a = a ∨ ∃ j, c ≤ j ∧ j < c + k ∧ lsN f t k c a = nI j
  | 0, c, a => Or.inl rfl
  | k + 1, c, a => by
    unfold lsN
    rcases lsN_r (f := f) (t := t) k (c + 1) (if f c = t then nI c else a) with q | ⟨j, h1, h2, h3⟩
    · by_cases w : f c = t
      · rw [if_pos w] at q ⊢
        exact Or.inr ⟨c, Nat.le_refl c, by omega, q⟩
      · rw [if_neg w] at q ⊢
        exact Or.inl q
    · exact Or.inr ⟨j, by omega, by omega, h3⟩
/-- the length and characters of text t, as the reference keeps them -/
theorem MT_at {I : Nat → Int32} {A : Nat → Nat → Int32} {B : Nat → Nat → Int64} {g : Nat → Nat} {T t : Nat} (hM : MT I A g T) (h1 : 1 ≤ t) (ht : t ≤ T) : nI t - 1 = nI (t - 1) ∧ A 38 (t - 1) = nI (tl g t) ∧ tl g t ≤ 62 ∧ ∀ i, i < tl g t → A 37 (64 * (t - 1) + i) = nI (tcr g t i) := by
  obtain ⟨⟨m1, m2⟩, m3⟩ := hM.2 (t - 1) (by omega)
  have et : tl g t = g (sp g (t - 1)) := if_neg (by omega)
  rw [show t - 1 + 1 = t by omega, ← et] at m3
  rw [← et] at m1 m2
  refine ⟨?_, m1, m2, m3⟩
  have := nI_pred (t - 1)
  rw [show t - 1 + 1 = t by omega] at this
  exact this
set_option maxRecDepth 100000 in
theorem p_M_wr_e {I : Nat → Int32} {A : Nat → Nat → Int32} {B : Nat → Nat → Int64} {Q : xQ} {T t n fr L : Nat} {r : Int64} {g : Nat → Nat} (hg : ∀ i, g i < 256) (hM : MT I A g T) (hT : T ≤ 14) (h1 : 1 ≤ t) (ht : t ≤ T) (hn : n < 8) (e10 : I 10 = nI n) (hN : nOk (B 25) (n + 1)) (hfr : fr ≤ 100) (hL : L ≤ 9) (hne : ∀ x, x < L → ¬ nI (tcr g t (fr + x)) = 59) (hr : L ≤ 8 → r = pkF (fun j => nI (tcr g t (fr + j))) L 0 0) (hend : tl g t ≤ fr + L ∨ L = 9 ∨ nI (tcr g t (fr + L)) = 59) (hQ : ∀ v, (v = -1 ∨ ∃ j, j < n + 1 ∧ v = nI j) → (∀ j, j < n + 1 → fr + tlen (B 25 j) < tl g t → rd (fun x => nI (tcr g t x)) fr (tlen (B 25 j)) = tx (B 25 j) → nI (tcr g t (fr + tlen (B 25 j))) = 59 → v = nI j) → Q (.inl (some (.int v))) (HX I A B) 0) : xG tb_M_written Q (93, [some (.ref 24), some (.int (nI t)), some (.int (nI fr)), some (.long r), none, some (.int (nI (fr + L)))], [], (HX I A B), 0) := by
  obtain ⟨ep, m1, m2, m3⟩ := MT_at (I := I) (A := A) (B := B) hM h1 ht
  have hLj : ∀ j, j < n + 1 → fr + tlen (B 25 j) < tl g t → rd (fun x => nI (tcr g t x)) fr (tlen (B 25 j)) = tx (B 25 j) → nI (tcr g t (fr + tlen (B 25 j))) = 59 → L = tlen (B 25 j) := fun j hj a b c => by
    have h8 := tlen_le (B 25 j)
    obtain ⟨-, -, -, -, o5, -, -⟩ := okT_len (hN.1 j hj)
    have le : L ≤ tlen (B 25 j) := by
      rcases Nat.lt_or_ge (tlen (B 25 j)) L with q | q
      · exact absurd c (hne _ q)
      · exact q
    rcases Nat.lt_or_ge L (tlen (B 25 j)) with q | q
    · rcases hend with p | p | p
      · omega
      · omega
      · have := rd_at _ _ _ b L q
        rw [Nat.zero_add] at this
        exact absurd (this.symm.trans p) (o5 L q).2
    · omega
  refine xG.go [140] 60 ?_
  show (vp_in ((nI t) - (1 : Int32)) 15 ∧ ((((A 38) ((nI t) - (1 : Int32)).toNatClampNeg) ≤ (nI (fr + L)) → Q (.inl (some (.int (-1 : Int32)))) (HX I A B) 0) ∧ (¬ ((A 38) ((nI t) - (1 : Int32)).toNatClampNeg) ≤ (nI (fr + L)) → (((nI (fr + L)) ≤ ((nI fr) + (8 : Int32)) → (vp_in (I 10) 8 ∧ (((lg_cmp ((B 25) (I 10).toNatClampNeg) r) = 0 → Q (.inl (some (.int (I 10)))) (HX I A B) 0) ∧ (¬ (lg_cmp ((B 25) (I 10).toNatClampNeg) r) = 0 → xG tb_M_written Q (140, [some (.ref 24), some (.int (nI t)), some (.int (nI fr)), some (.long r), none, some (.int (nI (fr + L)))], [.long r, .ref 24], (HX I A B), 0))))) ∧ (¬ (nI (fr + L)) ≤ ((nI fr) + (8 : Int32)) → Q (.inl (some (.int (-1 : Int32)))) (HX I A B) 0)))))
  have e8 : nI fr + 8 = nI (fr + 8) := nI_add fr 8
  rw [ep, nI_clamp (by omega), m1, e8, e10, nI_clamp (by omega)]
  refine ⟨vp_in_nI (by omega) (by omega), fun z => hQ _ (Or.inl rfl) (fun j hj a b c => ?_), fun z => ⟨fun z1 => ⟨vp_in_nI hn (by omega), ?_⟩, fun z1 => hQ _ (Or.inl rfl) (fun j hj a b c => ?_)⟩⟩
  · have := hLj j hj a b c
    rcases Nat.lt_or_ge (fr + L) (tl g t) with q | q
    · exact absurd z (nI_ge q (by omega))
    · omega
  · have hL8 : L ≤ 8 := by
      rcases Nat.lt_or_ge 8 L with q | q
      · exact absurd z1 (nI_ge (by omega) (by omega))
      · exact q
    have hv : ∀ j, j < n + 1 → fr + tlen (B 25 j) < tl g t → rd (fun x => nI (tcr g t x)) fr (tlen (B 25 j)) = tx (B 25 j) → nI (tcr g t (fr + tlen (B 25 j))) = 59 → r = B 25 j := fun j hj a b c => by
      rw [hr hL8, hLj j hj a b c]
      refine pk_tx ?_
      rw [← b]
      exact rd_eq _ _ _ (fun x hx => by rw [Nat.zero_add])
    refine ⟨fun z2 => hQ _ (Or.inr ⟨n, by omega, rfl⟩) (fun j hj a b c => ?_), fun z2 => ?_⟩
    · have e1 := (lg_cmp_eq _ _).mp z2
      rw [hN.2 n j (by omega) hj (e1.trans (hv j hj a b c))]
    · refine xG.callV (F := xRun tb_M_named 5) (a := 24) rfl rfl rfl rfl (p_M_named (by omega) e10 ?_)
      have hls : ∀ j, j < n + 1 → r = B 25 j → lsN (B 25) r n 0 (-1) = nI j := fun j hj e => by
        have jn : j < n := by
          rcases Nat.lt_or_ge j n with q | q
          · exact q
          · obtain rfl : j = n := by omega
            exact absurd ((lg_cmp_eq _ _).mpr e.symm) z2
        exact lsN_yes e.symm n 0 (-1) (by omega) (by omega) (fun x _ hx ex => hN.2 x j (by omega) hj (ex.trans e))
      have hrg := lsN_r (f := B 25) (t := r) n 0 (-1)
      generalize lsN (B 25) r n 0 (-1) = v at hls hrg ⊢
      refine xG.go [140] 60 ?_
      show Q (.inl (some (.int v))) (HX I A B) 0
      exact hQ v (hrg.elim Or.inl (fun ⟨j, _, hj, e⟩ => Or.inr ⟨j, by omega, e⟩)) (fun j hj a b c => hls j hj (hv j hj a b c))
  · have := hLj j hj a b c
    have := tlen_le (B 25 j)
    exact absurd (nI_le (by omega) (by omega)) z1
set_option maxRecDepth 100000 in
theorem p_M_wr_l {I : Nat → Int32} {A : Nat → Nat → Int32} {B : Nat → Nat → Int64} {Q : xQ} {T t n fr : Nat} {g : Nat → Nat} (hg : ∀ i, g i < 256) (hM : MT I A g T) (hT : T ≤ 14) (h1 : 1 ≤ t) (ht : t ≤ T) (hn : n < 8) (e10 : I 10 = nI n) (hN : nOk (B 25) (n + 1)) (hfr : fr ≤ 100) (hQ : ∀ v, (v = -1 ∨ ∃ j, j < n + 1 ∧ v = nI j) → (∀ j, j < n + 1 → fr + tlen (B 25 j) < tl g t → rd (fun x => nI (tcr g t x)) fr (tlen (B 25 j)) = tx (B 25 j) → nI (tcr g t (fr + tlen (B 25 j))) = 59 → v = nI j) → Q (.inl (some (.int v))) (HX I A B) 0) : ∀ (k L : Nat) (r : Int64), L + k = 9 → (∀ x, x < L → ¬ nI (tcr g t (fr + x)) = 59) → (L ≤ 8 → r = pkF (fun j => nI (tcr g t (fr + j))) L 0 0) → xG tb_M_written Q (5, [some (.ref 24), some (.int (nI t)), some (.int (nI fr)), some (.long r), none, some (.int (nI (fr + L)))], [], (HX I A B), 0)
  | 0, L, r, e, hne, hr => by
    obtain ⟨ep, m1, m2, m3⟩ := MT_at (I := I) (A := A) (B := B) hM h1 ht
    refine xG.go [5, 93, 140] 60 ?_
    show (vp_in ((nI t) - (1 : Int32)) 15 ∧ ((((A 38) ((nI t) - (1 : Int32)).toNatClampNeg) ≤ (nI (fr + L)) → xG tb_M_written Q (93, [some (.ref 24), some (.int (nI t)), some (.int (nI fr)), some (.long r), none, some (.int (nI (fr + L)))], [], (HX I A B), 0)) ∧ (¬ ((A 38) ((nI t) - (1 : Int32)).toNatClampNeg) ≤ (nI (fr + L)) → ((((nI fr) + (9 : Int32)) ≤ (nI (fr + L)) → xG tb_M_written Q (93, [some (.ref 24), some (.int (nI t)), some (.int (nI fr)), some (.long r), none, some (.int (nI (fr + L)))], [], (HX I A B), 0)) ∧ (¬ ((nI fr) + (9 : Int32)) ≤ (nI (fr + L)) → (vp_in ((((64 : Int32) * (nI t)) - (64 : Int32)) + (nI (fr + L))) 960 ∧ ((((A 37) ((((64 : Int32) * (nI t)) - (64 : Int32)) + (nI (fr + L))).toNatClampNeg) = (59 : Int32) → xG tb_M_written Q (93, [some (.ref 24), some (.int (nI t)), some (.int (nI fr)), some (.long r), none, some (.int (nI (fr + L)))], [], (HX I A B), 0)) ∧ (¬ ((A 37) ((((64 : Int32) * (nI t)) - (64 : Int32)) + (nI (fr + L))).toNatClampNeg) = (59 : Int32) → ((((nI fr) + (8 : Int32)) ≤ (nI (fr + L)) → xG tb_M_written Q (5, [some (.ref 24), some (.int (nI t)), some (.int (nI fr)), some (.long r), none, some (.int ((nI (fr + L)) + (1 : Int32)))], [], (HX I A B), 0)) ∧ (¬ ((nI fr) + (8 : Int32)) ≤ (nI (fr + L)) → (vp_in ((((64 : Int32) * (nI t)) - (64 : Int32)) + (nI (fr + L))) 960 ∧ xG tb_M_written Q (5, [some (.ref 24), some (.int (nI t)), some (.int (nI fr)), some (.long (r ||| (xshl ((A 37) ((((64 : Int32) * (nI t)) - (64 : Int32)) + (nI (fr + L))).toNatClampNeg).toInt64 ((8 : Int32) * ((nI (fr + L)) - (nI fr)))))), none, some (.int ((nI (fr + L)) + (1 : Int32)))], [], (HX I A B), 0))))))))))))
    have e9 : nI fr + 9 = nI (fr + 9) := nI_add fr 9
    rw [ep, nI_clamp (by omega), m1, e9]
    have fin := fun h => p_M_wr_e hg hM hT h1 ht hn e10 hN hfr (by omega : L ≤ 9) hne hr h hQ
    exact ⟨vp_in_nI (by omega) (by omega), fun _ => fin (Or.inr (Or.inl (by omega))), fun _ => br_y (nI_le (by omega) (by omega)) (fin (Or.inr (Or.inl (by omega))))⟩
  | k + 1, L, r, e, hne, hr => by
    obtain ⟨ep, m1, m2, m3⟩ := MT_at (I := I) (A := A) (B := B) hM h1 ht
    have fin := fun h => p_M_wr_e hg hM hT h1 ht hn e10 hN hfr (by omega : L ≤ 9) hne hr h hQ
    refine xG.go [5, 93, 140] 60 ?_
    show (vp_in ((nI t) - (1 : Int32)) 15 ∧ ((((A 38) ((nI t) - (1 : Int32)).toNatClampNeg) ≤ (nI (fr + L)) → xG tb_M_written Q (93, [some (.ref 24), some (.int (nI t)), some (.int (nI fr)), some (.long r), none, some (.int (nI (fr + L)))], [], (HX I A B), 0)) ∧ (¬ ((A 38) ((nI t) - (1 : Int32)).toNatClampNeg) ≤ (nI (fr + L)) → ((((nI fr) + (9 : Int32)) ≤ (nI (fr + L)) → xG tb_M_written Q (93, [some (.ref 24), some (.int (nI t)), some (.int (nI fr)), some (.long r), none, some (.int (nI (fr + L)))], [], (HX I A B), 0)) ∧ (¬ ((nI fr) + (9 : Int32)) ≤ (nI (fr + L)) → (vp_in ((((64 : Int32) * (nI t)) - (64 : Int32)) + (nI (fr + L))) 960 ∧ ((((A 37) ((((64 : Int32) * (nI t)) - (64 : Int32)) + (nI (fr + L))).toNatClampNeg) = (59 : Int32) → xG tb_M_written Q (93, [some (.ref 24), some (.int (nI t)), some (.int (nI fr)), some (.long r), none, some (.int (nI (fr + L)))], [], (HX I A B), 0)) ∧ (¬ ((A 37) ((((64 : Int32) * (nI t)) - (64 : Int32)) + (nI (fr + L))).toNatClampNeg) = (59 : Int32) → ((((nI fr) + (8 : Int32)) ≤ (nI (fr + L)) → xG tb_M_written Q (5, [some (.ref 24), some (.int (nI t)), some (.int (nI fr)), some (.long r), none, some (.int ((nI (fr + L)) + (1 : Int32)))], [], (HX I A B), 0)) ∧ (¬ ((nI fr) + (8 : Int32)) ≤ (nI (fr + L)) → (vp_in ((((64 : Int32) * (nI t)) - (64 : Int32)) + (nI (fr + L))) 960 ∧ xG tb_M_written Q (5, [some (.ref 24), some (.int (nI t)), some (.int (nI fr)), some (.long (r ||| (xshl ((A 37) ((((64 : Int32) * (nI t)) - (64 : Int32)) + (nI (fr + L))).toNatClampNeg).toInt64 ((8 : Int32) * ((nI (fr + L)) - (nI fr)))))), none, some (.int ((nI (fr + L)) + (1 : Int32)))], [], (HX I A B), 0))))))))))))
    have e9 : nI fr + 9 = nI (fr + 9) := nI_add fr 9
    have e8 : nI fr + 8 = nI (fr + 8) := nI_add fr 8
    have es : nI (fr + L) - nI fr = nI L := by
      rw [← nI_add, Int32.add_comm, Int32.add_sub_cancel]
    rw [ep, nI_clamp (by omega), m1, e9, e8, n64b h1, es, nI_1]
    refine ⟨vp_in_nI (by omega) (by omega), fun z => fin (Or.inl ?_), fun z => ?_⟩
    · rcases Nat.lt_or_ge (fr + L) (tl g t) with q | q
      · exact absurd z (nI_ge q (by omega))
      · exact q
    · have hlt : fr + L < tl g t := by
        rcases Nat.lt_or_ge (fr + L) (tl g t) with q | q
        · exact q
        · exact absurd (nI_le q (by omega)) z
      rw [nI_clamp (by omega), m3 _ hlt]
      have hin : vp_in (nI (64 * (t - 1) + (fr + L))) 960 := vp_in_nI (by omega) (by omega)
      refine br_n (nI_ge (by omega) (by omega)) ⟨hin, fun z1 => fin (Or.inr (Or.inr z1)), fun z1 => ?_⟩
      have hne' : ∀ x, x < L + 1 → ¬ nI (tcr g t (fr + x)) = 59 := fun x hx => by
        by_cases q : x = L
        · rw [q]; exact z1
        · exact hne x (by omega)
      refine ⟨fun z2 => ?_, fun z2 => ⟨hin, ?_⟩⟩
      · have : 8 ≤ L := by
          rcases Nat.lt_or_ge L 8 with q | q
          · exact absurd z2 (nI_ge (by omega) (by omega))
          · exact q
        exact p_M_wr_l hg hM hT h1 ht hn e10 hN hfr hQ k (L + 1) r (by omega) hne' (fun q => by omega)
      · refine p_M_wr_l hg hM hT h1 ht hn e10 hN hfr hQ k (L + 1) _ (by omega) hne' (fun q => ?_)
        rw [pkF_snoc, Nat.zero_add, hr (by omega)]
theorem p_M_written {I : Nat → Int32} {A : Nat → Nat → Int32} {B : Nat → Nat → Int64} {Q : xQ} {T t n fr : Nat} {g : Nat → Nat} (hg : ∀ i, g i < 256) (hM : MT I A g T) (hT : T ≤ 14) (h1 : 1 ≤ t) (ht : t ≤ T) (hn : n < 8) (e10 : I 10 = nI n) (hN : nOk (B 25) (n + 1)) (hfr : fr ≤ 100) (hQ : ∀ v, (v = -1 ∨ ∃ j, j < n + 1 ∧ v = nI j) → (∀ j, j < n + 1 → fr + tlen (B 25 j) < tl g t → rd (fun x => nI (tcr g t x)) fr (tlen (B 25 j)) = tx (B 25 j) → nI (tcr g t (fr + tlen (B 25 j))) = 59 → v = nI j) → Q (.inl (some (.int v))) (HX I A B) 0) : xRun tb_M_written 6 [.ref 24, .int (nI t), .int (nI fr)] (HX I A B) Q := by
  refine ⟨Nat.le_of_ble_eq_true rfl, ?_⟩
  refine xG.go [5, 140] 20 ?_
  show xG tb_M_written Q (5, [some (.ref 24), some (.int (nI t)), some (.int (nI fr)), some (.long 0), none, some (.int (nI (fr + 0)))], [], (HX I A B), 0)
  exact p_M_wr_l hg hM hT h1 ht hn e10 hN hfr hQ 9 0 0 rfl (fun x hx => by omega) (fun _ => rfl)
set_option maxRecDepth 100000 in
theorem p_M_desc_l {I : Nat → Int32} {A : Nat → Nat → Int32} {B : Nat → Nat → Int64} {Q : xQ} {T t n : Nat} {g : Nat → Nat} (hg : ∀ i, g i < 256) (hM : MT I A g T) (hT : T ≤ 14) (h1 : 1 ≤ t) (ht : t ≤ T) (hn : n < 8) (e10 : I 10 = nI n) (hN : nOk (B 25) (n + 1)) (hQ : ∀ r, (∀ d, dOne d (n + 1) = true → txt g t = dx (B 25) d → r = d) → Q (.inl (some (.long r))) (HX I A B) 0) : ∀ (k i z : Nat) (r : Int64) (w6 w7 w8 : Option Value), tl g t ≤ i + k → i ≤ 90 → z ≤ 8 → dI (fun i => nI (tcr g t i)) (tl g t) (B 25) n i z r → xG tb_M_descriptorOf Q (23, [some (.ref 24), some (.int (nI t)), some (.long r), none, some (.int (nI z)), some (.int (nI i)), w6, w7, w8], [], (HX I A B), 0)
  | 0, i, z, r, w6, w7, w8, e, hi, hz, hd => by
    obtain ⟨ep, m1, m2, m3⟩ := MT_at (I := I) (A := A) (B := B) hM h1 ht
    refine xG.go [23, 66, 94, 124] 60 ?_
    show (vp_in ((nI t) - (1 : Int32)) 15 ∧ ((((A 38) ((nI t) - (1 : Int32)).toNatClampNeg) ≤ (nI i) → Q (.inl (some (.long r))) (HX I A B) 0) ∧ (¬ ((A 38) ((nI t) - (1 : Int32)).toNatClampNeg) ≤ (nI i) → (((9 : Int32) ≤ (nI z) → Q (.inl (some (.long r))) (HX I A B) 0) ∧ (¬ (9 : Int32) ≤ (nI z) → (vp_in ((((64 : Int32) * (nI t)) - (64 : Int32)) + (nI i)) 960 ∧ xG tb_M_descriptorOf Q (66, [some (.ref 24), some (.int (nI t)), some (.long r), none, some (.int (nI z)), some (.int (nI i)), some (.int ((A 37) ((((64 : Int32) * (nI t)) - (64 : Int32)) + (nI i)).toNatClampNeg)), some (.int ((A 37) ((((64 : Int32) * (nI t)) - (64 : Int32)) + (nI i)).toNatClampNeg)), w8], [.int ((A 37) ((((64 : Int32) * (nI t)) - (64 : Int32)) + (nI i)).toNatClampNeg)], (HX I A B), 0)))))))
    rw [ep, nI_clamp (by omega), m1]
    exact ⟨vp_in_nI (by omega) (by omega), br_y (nI_le (by omega) (by omega)) (hQ r (dI_end hd (by omega)))⟩
  | k + 1, i, z, r, w6, w7, w8, e, hi, hz, hd => by
    obtain ⟨ep, m1, m2, m3⟩ := MT_at (I := I) (A := A) (B := B) hM h1 ht
    refine xG.go [23, 66, 94, 124] 60 ?_
    show (vp_in ((nI t) - (1 : Int32)) 15 ∧ ((((A 38) ((nI t) - (1 : Int32)).toNatClampNeg) ≤ (nI i) → Q (.inl (some (.long r))) (HX I A B) 0) ∧ (¬ ((A 38) ((nI t) - (1 : Int32)).toNatClampNeg) ≤ (nI i) → (((9 : Int32) ≤ (nI z) → Q (.inl (some (.long r))) (HX I A B) 0) ∧ (¬ (9 : Int32) ≤ (nI z) → (vp_in ((((64 : Int32) * (nI t)) - (64 : Int32)) + (nI i)) 960 ∧ xG tb_M_descriptorOf Q (66, [some (.ref 24), some (.int (nI t)), some (.long r), none, some (.int (nI z)), some (.int (nI i)), some (.int ((A 37) ((((64 : Int32) * (nI t)) - (64 : Int32)) + (nI i)).toNatClampNeg)), some (.int ((A 37) ((((64 : Int32) * (nI t)) - (64 : Int32)) + (nI i)).toNatClampNeg)), w8], [.int ((A 37) ((((64 : Int32) * (nI t)) - (64 : Int32)) + (nI i)).toNatClampNeg)], (HX I A B), 0)))))))
    rw [ep, nI_clamp (by omega), m1, n64b h1]
    refine ⟨vp_in_nI (by omega) (by omega), fun q => hQ r (dI_end hd ?_), fun q => ?_⟩
    · rcases Nat.lt_or_ge i (tl g t) with w | w
      · exact absurd q (nI_ge w (by omega))
      · exact w
    have hil : i < tl g t := by
      rcases Nat.lt_or_ge i (tl g t) with w | w
      · exact w
      · exact absurd (nI_le w (by omega)) q
    rw [nI_clamp (by omega), m3 i hil]
    refine br_n (nI_ge (b := 9) (by omega) (by omega)) ⟨vp_in_nI (by omega) (by omega), ?_⟩
    have hc : tcr g t i < 256 := hg _
    have tail : ∀ (ch i' : Nat) (c6 : Int32) (w8 : Option Value), ch < 256 → i ≤ i' → i' ≤ 89 → dI (fun i => nI (tcr g t i)) (tl g t) (B 25) n (i' + 1) (z + 1) (r ||| xshl (nI ch).toInt64 ((8 : Int32) * nI z)) → z < 8 → xG tb_M_descriptorOf Q (130, [some (.ref 24), some (.int (nI t)), some (.long r), none, some (.int (nI z)), some (.int (nI i')), some (.int c6), some (.int (nI ch)), w8], [], (HX I A B), 0) := fun ch i' c6 w8 hch hii hi9 hd' hz8 => by
      refine xG.go [23, 66, 94, 124] 60 ?_
      show xG tb_M_descriptorOf Q (23, [some (.ref 24), some (.int (nI t)), some (.long (r ||| (xshl (nI ch).toInt64 ((8 : Int32) * (nI z))))), none, some (.int ((nI z) + (1 : Int32))), some (.int ((nI i') + (1 : Int32))), some (.int c6), some (.int (nI ch)), w8], [], (HX I A B), 0)
      rw [nI_1, nI_1]
      exact p_M_desc_l hg hM hT h1 ht hn e10 hN hQ k (i' + 1) (z + 1) _ _ _ _ (by omega) (by omega) (by omega) hd'
    refine xG.call (F := xRun tb_M_isDigit 1) rfl rfl (p_M_isDigit ?_)
    refine xG.go [23, 66, 94, 124, 130] 60 ?_
    show (((bI (isDig (nI (tcr g t i)))) = 0 → (((nI z) = (8 : Int32) → Q (.inl (some (.long (0 : Int64)))) (HX I A B) 0) ∧ (¬ (nI z) = (8 : Int32) → (((nI (tcr g t i)) = (76 : Int32) → xG tb_M_descriptorOf Q (94, [some (.ref 24), some (.int (nI t)), some (.long r), none, some (.int (nI z)), some (.int (nI i)), some (.int (nI (tcr g t i))), some (.int (nI (tcr g t i))), w8], [.int ((nI i) + (1 : Int32)), .int (nI t), .ref 24], (HX I A B), 0)) ∧ (¬ (nI (tcr g t i)) = (76 : Int32) → xG tb_M_descriptorOf Q (130, [some (.ref 24), some (.int (nI t)), some (.long r), none, some (.int (nI z)), some (.int (nI i)), some (.int (nI (tcr g t i))), some (.int (nI (tcr g t i))), w8], [], (HX I A B), 0)))))) ∧ (¬ (bI (isDig (nI (tcr g t i)))) = 0 → Q (.inl (some (.long (0 : Int64)))) (HX I A B) 0))
    cases hdg : isDig (nI (tcr g t i)) with
    | true => exact br_n (by decide) (hQ 0 (fun d d1 d2 => absurd d2 (dI_dig hn hd hil hdg d d1)))
    | false =>
      refine br_y rfl ⟨fun w => hQ 0 (fun d d1 d2 => ?_), fun w => ?_⟩
      · have : z = 8 := (nI_eq (b := 8) (by omega) (by omega)).mp w
        subst this
        exact absurd d2 (dI_8 hd hil d d1)
      · have hz8 : z < 8 := by
          rcases Nat.lt_or_ge z 8 with p | p
          · exact p
          · exact absurd (show nI z = 8 by rw [show z = 8 by omega]; rfl) w
        refine ⟨fun w2 => ?_, fun w2 => tail _ i _ _ hc (Nat.le_refl i) (by omega) (dI_ch hn hd hil w2) hz8⟩
        rw [nI_1]
        refine xG.callV (F := xRun tb_M_written 6) (a := 24) rfl rfl rfl rfl (p_M_written hg hM hT h1 ht hn e10 hN (by omega) (fun v hv1 hv2 => ?_))
        have hdd : ∀ d, dOne d (n + 1) = true → txt g t = dx (B 25) d → ∃ j, j < n + 1 ∧ v = nI j ∧ i + 1 + tlen (B 25 j) < tl g t ∧ (z + 1 ≤ tlen d ∧ rd (fun i => nI (tcr g t i)) (i + 1 + tlen (B 25 j) + 1) (tl g t - (i + 1 + tlen (B 25 j) + 1)) = dxF (B 25) d (z + 1) (tlen d - (z + 1)) ∧ r ||| xshl (nI (48 + j)).toInt64 ((8 : Int32) * nI z) = wpF d 0 0 (z + 1) 0 0) := fun d d1 d2 => by
          obtain ⟨j, j1, j2, j3, j4, j5⟩ := dI_L hn hd hil w2 d1 d2
          exact ⟨j, j1, hv2 j j1 j2 j3 j4, j2, j5⟩
        rcases hv1 with rfl | ⟨j, hj, rfl⟩
        · refine xG.go [23, 66, 94, 124, 130] 60 ?_
          show ((0 ≤ (-1 : Int32) → (vp_in (-1 : Int32) 8 ∧ xG tb_M_descriptorOf Q (124, [some (.ref 24), some (.int (nI t)), some (.long r), none, some (.int (nI z)), some (.int (nI i)), some (.int (nI (tcr g t i))), some (.int ((48 : Int32) + (-1 : Int32))), some (.int (-1 : Int32))], [.long ((B 25) (-1 : Int32).toNatClampNeg), .int ((nI i) + (1 : Int32))], (HX I A B), 0))) ∧ (¬ 0 ≤ (-1 : Int32) → Q (.inl (some (.long (0 : Int64)))) (HX I A B) 0))
          refine br_n (by decide) (hQ 0 (fun d d1 d2 => ?_))
          obtain ⟨j, j1, j2, -⟩ := hdd d d1 d2
          exact absurd j2 (m1_nI (by omega))
        · obtain ⟨-, o8, om, -, -, -, -⟩ := okT_len (hN.1 j hj)
          refine xG.go [23, 66, 94, 124, 130] 60 ?_
          show ((0 ≤ (nI j) → (vp_in (nI j) 8 ∧ xG tb_M_descriptorOf Q (124, [some (.ref 24), some (.int (nI t)), some (.long r), none, some (.int (nI z)), some (.int (nI i)), some (.int (nI (tcr g t i))), some (.int ((48 : Int32) + (nI j))), some (.int (nI j))], [.long ((B 25) (nI j).toNatClampNeg), .int ((nI i) + (1 : Int32))], (HX I A B), 0))) ∧ (¬ 0 ≤ (nI j) → Q (.inl (some (.long (0 : Int64)))) (HX I A B) 0))
          have e48 : (48 : Int32) + nI j = nI (48 + j) := nI_add 48 j
          rw [e48, nI_clamp (by omega), nI_1]
          refine br_y (nI_pos' (by omega)) ⟨vp_in_nI (by omega) (by omega), ?_⟩
          refine xG.call (F := xRun tb_M_length 3) rfl rfl (p_M_length ?_)
          rw [om]
          refine xG.go [23, 66, 94, 124, 130] 20 ?_
          show xG tb_M_descriptorOf Q (130, [some (.ref 24), some (.int (nI t)), some (.long r), none, some (.int (nI z)), some (.int (nI (i + 1) + nI (tlen (B 25 j)))), some (.int (nI (tcr g t i))), some (.int (nI (48 + j))), some (.int (nI j))], [], (HX I A B), 0)
          rw [nI_add]
          refine tail (48 + j) (i + 1 + tlen (B 25 j)) _ _ (by omega) (by omega) (by omega) (fun d d1 d2 => ?_) hz8
          obtain ⟨j', j1, j2, j3, j4, j5, j6⟩ := hdd d d1 d2
          obtain rfl : j = j' := (nI_eq (by omega) (by omega)).mp j2
          exact ⟨j4, by omega, j5, j6⟩
theorem p_M_descriptorOf {I : Nat → Int32} {A : Nat → Nat → Int32} {B : Nat → Nat → Int64} {Q : xQ} {T n : Nat} {x : Int32} {g : Nat → Nat} (hg : ∀ i, g i < 256) (hM : MT I A g T) (hT : T ≤ 14) (hn : n < 8) (e10 : I 10 = nI n) (hN : nOk (B 25) (n + 1)) (hQ : ∀ v, (∀ t d, 1 ≤ t → t ≤ T → x = nI t → dOne d (n + 1) = true → txt g t = dx (B 25) d → v = d) → Q (.inl (some (.long v))) (HX I A B) 0) : xRun tb_M_descriptorOf 9 [.ref 24, .int x] (HX I A B) Q := by
  refine ⟨Nat.le_of_ble_eq_true rfl, ?_⟩
  refine xG.go [23, 66, 94, 124] 60 ?_
  show ((x < (1 : Int32) → Q (.inl (some (.long (0 : Int64)))) (HX I A B) 0) ∧ (¬ x < (1 : Int32) → ((x ≤ (I 13) → xG tb_M_descriptorOf Q (23, [some (.ref 24), some (.int x), some (.long (0 : Int64)), none, some (.int (0 : Int32)), some (.int (0 : Int32)), none, none, none], [], (HX I A B), 0)) ∧ (¬ x ≤ (I 13) → Q (.inl (some (.long (0 : Int64)))) (HX I A B) 0))))
  rw [hM.1]
  refine ⟨fun z => hQ 0 (fun t s h1 h2 e _ _ => ?_), fun z => ⟨fun z1 => ?_, fun z1 => hQ 0 (fun t s h1 h2 e _ _ => ?_)⟩⟩
  · rw [e] at z
    exact absurd z (nI_nlt (b := 1) h1 (by omega))
  · obtain ⟨t, h1, h2, rfl⟩ : ∃ t, 1 ≤ t ∧ t ≤ T ∧ x = nI t := by
      have h0 : ¬ x < 0 := fun q => z (Int32.lt_trans q (by decide))
      have hc : isC (nI (T + 1)) x = true := by
        unfold isC
        rw [if_neg h0, if_neg (fun q => Int32.lt_irrefl (Int32.lt_of_lt_of_le (nI_lt (a := T) (b := T + 1) (by omega) (by omega)) (Int32.le_trans q z1)))]
      obtain ⟨t, ht, e⟩ := isC_ix (by omega) hc
      refine ⟨t, ?_, by omega, e⟩
      rcases Nat.eq_zero_or_pos t with q | q
      · rw [e, q] at z
        exact absurd (by decide : nI 0 < 1) z
      · exact q
    obtain ⟨ep, m1, m2, m3⟩ := MT_at (I := I) (A := A) (B := B) hM h1 h2
    exact p_M_desc_l hg hM hT h1 h2 hn e10 hN (fun r hr => hQ r (fun t' d h1' h2' e d1 d2 => by
      obtain rfl : t = t' := (nI_eq (by omega) (by omega)).mp e
      exact hr d d1 d2)) (tl g t) 0 0 0 none none none (by omega) (by omega) (by omega) dI_0
  · rw [e] at z1
    exact absurd (nI_le h2 (by omega)) z1
theorem p_M_isDescriptorOfFile {I : Nat → Int32} {A : Nat → Nat → Int32} {B : Nat → Nat → Int64} {Q : xQ} {n : Nat} {d : Int64} (hn : n < 8) (e10 : I 10 = nI n) (hq : Q (.inl (some (.int (bI (dOne d (n + 1)))))) (HX I A B) 0) : xRun tb_M_isDescriptorOfFile 5 [.ref 24, .long d] (HX I A B) Q := by
  refine ⟨Nat.le_of_ble_eq_true rfl, ?_⟩
  refine xG.go [13] 60 ?_
  show xG tb_M_isDescriptorOfFile Q (13, [some (.ref 24), some (.long d), none, some (.int (I 15)), none], [.int ((I 10) + (1 : Int32)), .long d, .ref 24], (HX I A B), 0)
  rw [e10, nI_1]
  refine xG.callV (F := xRun tb_M_isDescriptor 5) (a := 24) rfl rfl rfl rfl (p_M_isDescriptor (by omega) (fun x => ?_))
  generalize dOne d (n + 1) = v at hq ⊢
  refine xG.go [13] 20 ?_
  show ((bI v = 0 ∨ bI v = 1) ∧ Q (.inl (some (.int (bI v)))) (HX (va_up (va_up I 15 x) 15 (I 15)) A B) 0)
  rw [up_up, up_same]
  exact ⟨bI01 v, hq⟩
