-- load, the reference's side
def mA (A : Nat → Nat → Int32) : Nat → Nat → Int32 := fun r => if r = 4 then A 27 else if r = 5 then A 28 else if r = 6 then A 29 else if r = 11 then A 33 else A r
def mB (B : Nat → Nat → Int64) : Nat → Nat → Int64 := fun r => if r = 2 then B 25 else if r = 8 then B 30 else if r = 10 then B 32 else B r
theorem PM_vK {I : Nat → Int32} {A : Nat → Nat → Int32} {B : Nat → Nat → Int64} {n : Nat} {t : Int64} {s b : Int32} {k : Nat} {I' : Nat → Int32} {A' : Nat → Nat → Int32} {B' : Nat → Nat → Int64} (hc : isCN t = true) (hfr : ∀ j, j < n → ¬ B 25 j = t) (hs : s = -1 ∨ ∃ p, p < n ∧ s = nI p) (hb : b = 0 ∨ b = 1) (h : PM I A B n t s b k I' A' B') : vK (B 25) n (mA A') (mB B') k := by
  obtain ⟨-, ⟨e4, e5, e2, e3⟩, ⟨h5, h6, h7⟩, h8, h9, h10⟩ := h
  have a2 : mB B' 2 n = t := by show B' 25 n = t; rw [e2, pk_uLs]
  have a4 : mA A' 4 n = s := by show A' 27 n = s; rw [e4, pk_us]
  have a5 : mA A' 5 n = b := by show A' 28 n = b; rw [e5, pk_us]
  rw [vK, a2, a4, a5]
  exact ⟨hc, ⟨fun j hj => by show B' 25 j = _; rw [e2, pk_uLn (by omega)], hfr⟩, hs, hb, ⟨h6, h7⟩, fun j hj => ⟨(h9 j hj).1, (h9 j hj).2.1, (h9 j hj).2.2.1⟩, h10⟩
theorem PM_mOk {I : Nat → Int32} {A : Nat → Nat → Int32} {B : Nat → Nat → Int64} {n : Nat} {t : Int64} {s b : Int32} {k : Nat} {I' : Nat → Int32} {A' : Nat → Nat → Int32} {B' : Nat → Nat → Int64} (hn : n < 8) (hN : ∀ j, j < n → okT (B 25 j)) (hc : isCN t = true) (hs : s = -1 ∨ ∃ p, p < n ∧ s = nI p) (h : PM I A B n t s b k I' A' B') : mOk A' B' (mA A') (mB B') n k := by
  obtain ⟨-, ⟨e4, e5, e2, e3⟩, ⟨h5, h6, h7⟩, h8, h9, h10⟩ := h
  have ml : ∀ {t : Int64}, okT t → mlen t = tlen t := fun h => (okT_len h).2.2.1
  have okj : ∀ j, j < n + 1 → mlen (B' 25 j) = tlen (B' 25 j) := fun j hj => by
    rw [e2]
    by_cases q : j = n
    · rw [q, pk_uLs]; exact ml (okT_cn hc)
    · rw [pk_uLn q]; exact ml (hN j (by omega))
  refine ⟨⟨rfl, okj n (by omega)⟩, rfl, fun p hp hp8 => ⟨rfl, okj p ?_⟩, rfl, h6, fun j hj => ⟨⟨rfl, ml (okT_id (h9 j hj).1)⟩, ⟨rfl, (dOne_tx (by omega) (h9 j hj).2.1).2.1, fun i hi hd => ?_⟩, rfl⟩⟩
  · have hp' : A' 27 n = nI p := hp
    rw [e4, pk_us] at hp'
    rcases hs with q | ⟨x, hx, q⟩
    · exact absurd (q.symm.trans hp') (m1_nI (by omega))
    · have := (nI_eq (by omega) (by omega)).mp (q.symm.trans hp')
      omega
  · obtain ⟨-, c2, -⟩ := dOne_chars (h9 j hj).2.1
    obtain ⟨e, he, ee⟩ := (dch_ok (by omega) (c2 i hi)).2.2 hd
    exact ⟨e, by omega, ee, rfl, okj e he⟩
theorem p_M_ld_c {I : Nat → Int32} {A : Nat → Nat → Int32} {B : Nat → Nat → Int64} {Q : xQ} {sz : Nat} {F : List Int32} (hsz : sz ≤ 480) (e11 : I 11 = nI sz) (hF : F.length = sz) (hm : rd (A 36) 0 sz = F) (hK : ∀ (v : Bool) w2, (v = true ↔ F = rd (A 35) 0 sz) → xG tb_M_load Q (111, [some (.ref 24), some (.int (bI v)), w2], [], (HX I A B), 0)) : ∀ (k i : Nat), i + k = sz → (∀ j, j < i → A 36 j = A 35 j) → xG tb_M_load Q (72, [some (.ref 24), some (.int (bI true)), some (.int (nI i))], [], (HX I A B), 0)
  | 0, i, e, h => by
    refine xG.go [2, 22, 50, 72, 111] 60 ?_
    show (((I 11) ≤ (nI i) → xG tb_M_load Q (111, [some (.ref 24), some (.int (bI true)), some (.int (nI i))], [], (HX I A B), 0)) ∧ (¬ (I 11) ≤ (nI i) → (((bI true) = 0 → xG tb_M_load Q (111, [some (.ref 24), some (.int (bI true)), some (.int (nI i))], [], (HX I A B), 0)) ∧ (¬ (bI true) = 0 → (vp_in (nI i) 480 ∧ (vp_in (nI i) 480 ∧ ((((A 36) (nI i).toNatClampNeg) = ((A 35) (nI i).toNatClampNeg) → xG tb_M_load Q (72, [some (.ref 24), some (.int (1 : Int32)), some (.int ((nI i) + (1 : Int32)))], [], (HX I A B), 0)) ∧ (¬ ((A 36) (nI i).toNatClampNeg) = ((A 35) (nI i).toNatClampNeg) → xG tb_M_load Q (72, [some (.ref 24), some (.int (0 : Int32)), some (.int ((nI i) + (1 : Int32)))], [], (HX I A B), 0)))))))))
    rw [e11]
    refine br_y (nI_le (by omega) (by omega)) (hK true _ ⟨fun _ => ?_, fun _ => rfl⟩)
    rw [← hm]
    exact rd_eq _ _ _ (fun j hj => by rw [Nat.zero_add]; exact h j (by omega))
  | k + 1, i, e, h => by
    refine xG.go [2, 22, 50, 72, 111] 60 ?_
    show (((I 11) ≤ (nI i) → xG tb_M_load Q (111, [some (.ref 24), some (.int (bI true)), some (.int (nI i))], [], (HX I A B), 0)) ∧ (¬ (I 11) ≤ (nI i) → (((bI true) = 0 → xG tb_M_load Q (111, [some (.ref 24), some (.int (bI true)), some (.int (nI i))], [], (HX I A B), 0)) ∧ (¬ (bI true) = 0 → (vp_in (nI i) 480 ∧ (vp_in (nI i) 480 ∧ ((((A 36) (nI i).toNatClampNeg) = ((A 35) (nI i).toNatClampNeg) → xG tb_M_load Q (72, [some (.ref 24), some (.int (1 : Int32)), some (.int ((nI i) + (1 : Int32)))], [], (HX I A B), 0)) ∧ (¬ ((A 36) (nI i).toNatClampNeg) = ((A 35) (nI i).toNatClampNeg) → xG tb_M_load Q (72, [some (.ref 24), some (.int (0 : Int32)), some (.int ((nI i) + (1 : Int32)))], [], (HX I A B), 0)))))))))
    rw [e11, nI_clamp (by omega), nI_1]
    have hin : vp_in (nI i) 480 := vp_in_nI (by omega) (by omega)
    refine br_n (nI_ge (by omega) (by omega)) (br_n (by decide) ⟨hin, hin, fun z => ?_, fun z => ?_⟩)
    · refine p_M_ld_c hsz e11 hF hm hK k (i + 1) (by omega) (fun j hj => ?_)
      by_cases q : j = i
      · rw [q]; exact z
      · exact h j (by omega)
    · have hf : false = true ↔ F = rd (A 35) 0 sz := ⟨fun q => (by cases q), fun q => absurd (by have := rd_at _ _ _ (hm.trans q) i (by omega); rw [Nat.zero_add] at this; exact this) z⟩
      refine xG.go [2, 22, 50, 84, 111] 60 ?_
      show (((I 11) ≤ (nI (i + 1)) → xG tb_M_load Q (111, [some (.ref 24), some (.int (0 : Int32)), some (.int (nI (i + 1)))], [], (HX I A B), 0)) ∧ (¬ (I 11) ≤ (nI (i + 1)) → (((0 : Int32) = 0 → xG tb_M_load Q (111, [some (.ref 24), some (.int (0 : Int32)), some (.int (nI (i + 1)))], [], (HX I A B), 0)) ∧ (¬ (0 : Int32) = 0 → xG tb_M_load Q (84, [some (.ref 24), some (.int (0 : Int32)), some (.int (nI (i + 1)))], [], (HX I A B), 0)))))
      rw [e11]
      exact ⟨fun _ => hK false _ hf, fun _ => br_y rfl (hK false _ hf)⟩
theorem SPm_file {g : Nat → Nat} {sz n k m : Nat} {I : Nat → Int32} {A : Nat → Nat → Int32} {B : Nat → Nat → Int64} {t : Int64} {s b : Int32} {I' : Nat → Int32} {A' : Nat → Nat → Int32} {B' : Nat → Nat → Int64} {As : Nat → Nat → Int32} {Bs : Nat → Nat → Int64} (hg : ∀ i, g i < 256) (hn : n < 8) (hN : ∀ j, j < n → okT (B 25 j)) (hP : PM I A B n t s b k I' A' B') (hk : k = g (sp g (g 1) + 3)) (hs : SPm g sz (B 25) n t s b k A' B') (v : vK (B 25) n As Bs m) (h : rd (fun i => nI (g i)) 0 sz = fileL (clF As Bs n m)) : m = k ∧ clF As Bs n m = clF (mA A') (mB B') n m ∧ (Bs 2 n = t ∧ As 4 n = s ∧ As 5 n = b) ∧ ∀ j, j < m → Bs 8 (8 * n + j) = B' 30 (8 * n + j) ∧ Bs 10 (8 * n + j) = B' 32 (8 * n + j) ∧ As 11 (8 * n + j) = A' 33 (8 * n + j) := by
  have tf := TG_TF hg hn hN v h
  obtain ⟨⟨q1, q2, q3⟩, q4⟩ := hs As Bs m v tf
  have em : m = k := by rw [hk]; exact tf.1.2.2.2.2.1.symm
  obtain ⟨-, ⟨e4, e5, e2, e3⟩, ⟨h5, h6, h7⟩, h8, h9, h10⟩ := hP
  have a2 : mB B' 2 n = t := by show B' 25 n = t; rw [e2, pk_uLs]
  have a4 : mA A' 4 n = s := by show A' 27 n = s; rw [e4, pk_us]
  have a5 : mA A' 5 n = b := by show A' 28 n = b; rw [e5, pk_us]
  have hq : ∀ j, j < m → Bs 8 (8 * n + j) = B' 30 (8 * n + j) ∧ Bs 10 (8 * n + j) = B' 32 (8 * n + j) ∧ As 11 (8 * n + j) = A' 33 (8 * n + j) := fun j hj => q4 j (by omega) hj
  refine ⟨em, ?_, ⟨q1, q2, q3⟩, hq⟩
  refine clF_agree hn (fun j hj => ?_) (q2.trans a4.symm) ?_ (q3.trans a5.symm) ?_ hq (fun j hj => (h9 j (by omega)).2.1)
  · by_cases w : j = n
    · rw [w, a2]; exact q1
    · show Bs 2 j = B' 25 j
      rw [e2, pk_uLn w]; exact v.2.1.1 j (by omega)
  · rw [a4, ← q2]; exact v.2.2.1
  · show As 6 n = A' 29 n
    rw [v.2.2.2.2.1.1, h6, em]
set_option maxRecDepth 100000 in
theorem p_M_load {I : Nat → Int32} {A : Nat → Nat → Int32} {B : Nat → Nat → Int64} {Q : xQ} {n sz : Nat} {mc : Nat → Nat} {g : Nat → Nat} (h8 : n ≤ 8) (e10 : I 10 = nI n) (hm : ∀ c, c < n → mc c ≤ 6 ∧ A 29 c = nI (mc c)) (hmt : mtot B mc 0 n < 2 ^ 31) (h : MY I A sz g) (hN : nOk (B 25) n)
    (h1 : (0 < mtot B mc 0 n ∨ n = 8) → Q (.inl (some (.int 0))) (HX (va_up I 9 1) A B) 0)
    (h2 : ¬ (0 < mtot B mc 0 n ∨ n = 8) → ∀ I1 A1 I' A' B', KM I A B n I1 A1 B' → (∀ j, ¬ (j = 9 ∨ j = 12 ∨ j = 13 ∨ j = 14) → I' j = I1 j) → I' 9 = 2 → (∀ r, ¬ (r = 36 ∨ r = 37 ∨ r = 38 ∨ r = 39 ∨ r = 40) → A' r = A1 r) → (∀ As Bs m, vK (B 25) n As Bs m → ¬ rd (fun i => nI (g i)) 0 sz = fileL (clF As Bs n m)) → Q (.inl (some (.int 0))) (HX I' A' B') 0)
    (h0 : ¬ (0 < mtot B mc 0 n ∨ n = 8) → ∀ t s b I1 A1 I' A' B', isCN t = true → (∀ j, j < n → ¬ B 25 j = t) → (s = -1 ∨ ∃ p, p < n ∧ s = nI p) → (b = 0 ∨ b = 1) → PM I A B n t s b (g (sp g (g 1) + 3)) I1 A1 B' → SPm g sz (B 25) n t s b (g (sp g (g 1) + 3)) A1 B' → (∀ j, ¬ (j = 9 ∨ j = 10 ∨ j = 12 ∨ j = 13 ∨ j = 14) → I' j = I1 j) → I' 9 = 0 → I' 10 = nI (n + 1) → (∀ r, ¬ (r = 36 ∨ r = 37 ∨ r = 38 ∨ r = 39 ∨ r = 40) → A' r = A1 r) → rd (fun i => nI (g i)) 0 sz = fileL (clF (mA A1) (mB B') n (g (sp g (g 1) + 3))) → Q (.inl (some (.int (nI n)))) (HX I' A' B') 0) : xRun tb_M_load 3 [.ref 24] (HX I A B) Q := by
  refine ⟨Nat.le_of_ble_eq_true rfl, ?_⟩
  refine xG.go [2, 22, 33, 50] 60 ?_
  show xG tb_M_load Q (2, [some (.ref 24), none, none], [.ref 24, .ref 24], (HX I A B), 0)
  refine xG.callV (F := xRun tb_M_moves 4) (a := 24) rfl rfl rfl rfl (p_M_moves h8 e10 hm ?_)
  have one : (0 < mtot B mc 0 n ∨ n = 8) → xG tb_M_load Q (33, [some (.ref 24), none, none], [.int 1, .ref 24], (HX I A B), 0) := fun w => by
    refine xG.go [2, 22, 50] 60 ?_
    show (((1 : Int32) ≤ 0 → xG tb_M_load Q (50, [some (.ref 24), none, none], [.int (I 10), .ref 24], (HX (va_up I 9 (1 : Int32)) A B), 0)) ∧ (¬ (1 : Int32) ≤ 0 → Q (.inl (some (.int (0 : Int32)))) (HX (va_up I 9 (1 : Int32)) A B) 0))
    exact br_n (by decide) (h1 w)
  refine xG.go [2, 22, 33, 50] 60 ?_
  show ((0 < (nI (mtot B mc 0 n)) → xG tb_M_load Q (33, [some (.ref 24), none, none], [.int (1 : Int32), .ref 24], (HX I A B), 0)) ∧ (¬ 0 < (nI (mtot B mc 0 n)) → (((I 10) = (8 : Int32) → xG tb_M_load Q (33, [some (.ref 24), none, none], [.int (1 : Int32), .ref 24], (HX I A B), 0)) ∧ (¬ (I 10) = (8 : Int32) → xG tb_M_load Q (22, [some (.ref 24), none, none], [.ref 24, .ref 24], (HX I A B), 0)))))
  rw [e10]
  refine ⟨fun z => one (Or.inl ?_), fun z => ⟨fun z1 => one (Or.inr ((nI_eq (b := 8) (by omega) (by omega)).mp z1)), fun z1 => ?_⟩⟩
  · rcases Nat.eq_zero_or_pos (mtot B mc 0 n) with q | q
    · rw [q] at z; exact absurd z (by decide)
    · exact q
  have nw : ¬ (0 < mtot B mc 0 n ∨ n = 8) := fun q => q.elim (fun q => z (Int32.not_le.mp (nI_nle q hmt))) (fun q => z1 (by rw [q]; rfl))
  have h2 := h2 nw
  have h0 := h0 nw
  have hn : n < 8 := by
    rcases Nat.lt_or_ge n 8 with q | q
    · exact q
    · exact absurd (Or.inr (by omega)) nw
  refine xG.callV (F := xRun tb_M_readClass 8) (a := 24) rfl rfl rfl rfl (p_M_readClass h hn e10 hN (fun I1 A1 B1 k1 k2 => ?_) (fun t s b I1 A1 B1 hc hfr hs hb hP hsp => ?_))
  · refine xG.go [2, 22, 50] 60 ?_
    show (((0 : Int32) = 0 → (((2 : Int32) ≤ 0 → xG tb_M_load Q (50, [some (.ref 24), none, none], [.int (I1 10), .ref 24], (HX (va_up I1 9 (2 : Int32)) A1 B1), 0)) ∧ (¬ (2 : Int32) ≤ 0 → Q (.inl (some (.int (0 : Int32)))) (HX (va_up I1 9 (2 : Int32)) A1 B1) 0))) ∧ (¬ (0 : Int32) = 0 → (((0 : Int32) ≤ 0 → xG tb_M_load Q (50, [some (.ref 24), none, none], [.int (I1 10), .ref 24], (HX (va_up I1 9 (0 : Int32)) A1 B1), 0)) ∧ (¬ (0 : Int32) ≤ 0 → Q (.inl (some (.int (0 : Int32)))) (HX (va_up I1 9 (0 : Int32)) A1 B1) 0))))
    refine br_y rfl (br_n (by decide) (h2 I1 A1 _ A1 B1 k1 (fun j hj => up_n (fun q => hj (by omega))) rfl (fun _ _ => rfl) (fun As Bs m v q => k2 As Bs m v (TG_TF h.2.2.1 hn hN.1 v q))))
  · have v := PM_vK hc hfr hs hb hP
    have hf := vK_fOk hn v
    have ho := PM_mOk hn hN.1 hc hs hP
    have hl := (file_len hf).1
    generalize hk : g (sp g (g 1) + 3) = k at *
    refine xG.go [2, 22, 50] 60 ?_
    show (((1 : Int32) = 0 → (((2 : Int32) ≤ 0 → xG tb_M_load Q (50, [some (.ref 24), none, none], [.int (I1 10), .ref 24], (HX (va_up I1 9 (2 : Int32)) A1 B1), 0)) ∧ (¬ (2 : Int32) ≤ 0 → Q (.inl (some (.int (0 : Int32)))) (HX (va_up I1 9 (2 : Int32)) A1 B1) 0))) ∧ (¬ (1 : Int32) = 0 → (((0 : Int32) ≤ 0 → xG tb_M_load Q (50, [some (.ref 24), none, none], [.int (I1 10), .ref 24], (HX (va_up I1 9 (0 : Int32)) A1 B1), 0)) ∧ (¬ (0 : Int32) ≤ 0 → Q (.inl (some (.int (0 : Int32)))) (HX (va_up I1 9 (0 : Int32)) A1 B1) 0))))
    rw [hP.1.1 10 (by omega), e10]
    refine br_n (by decide) (br_y (by decide) ?_)
    refine xG.callV (F := xRun tb_M_make 4) (a := 24) rfl rfl rfl rfl (p_M_make (I := va_up I1 9 0) hf ho (fun I2 A2 hw hkk => ?_))
    have e12 : I2 11 = nI sz := (hkk.1 11 (by omega)).trans ((hP.1.1 11 (by omega)).trans h.1)
    have e35 : A2 35 = A 35 := (hkk.2 35 (by omega)).trans (hP.1.2.1 35 (by omega))
    have hX : rd (A2 35) 0 sz = rd (fun i => nI (g i)) 0 sz := by
      rw [e35]
      exact rd_eq _ _ _ (fun i hi => by rw [Nat.zero_add]; exact h.2.2.2 i hi)
    have hsz := h.2.1
    have fin : ∀ (w : Bool) w2, (w = true ↔ fileL (clF (mA A1) (mB B1) n k) = rd (A2 35) 0 sz) → xG tb_M_load Q (111, [some (.ref 24), some (.int (bI w)), w2], [], HX I2 A2 B1, 0) := fun w w2 hw' => by
      refine xG.go [2, 22, 50] 60 ?_
      show (((bI w) = 0 → Q (.inl (some (.int (0 : Int32)))) (HX (va_up I2 9 (2 : Int32)) A2 B1) 0) ∧ (¬ (bI w) = 0 → Q (.inl (some (.int (((I2 10) + (1 : Int32)) - (1 : Int32))))) (HX (va_up I2 10 ((I2 10) + (1 : Int32))) A2 B1) 0))
      have e10' : I2 10 = nI n := (hkk.1 10 (by omega)).trans ((hP.1.1 10 (by omega)).trans e10)
      rw [e10', nI_1, nI_pred]
      cases w with
      | true =>
        have eF := hw'.mp rfl
        refine br_n (by decide) (h0 t s b I1 A1 _ A2 B1 hc hfr hs hb hP hsp (fun j hj => ?_) ?_ rfl (fun r hr => hkk.2 r hr) ?_)
        · rw [up_n (fun q => hj (by omega)), hkk.1 j (fun q => hj (by omega)), up_n (fun q => hj (by omega))]
        · exact (hkk.1 9 (by omega)).trans rfl
        · rw [eF, hX]
      | false =>
        refine br_y rfl (h2 I1 A1 _ A2 B1 (PM_KM hP) (fun j hj => ?_) rfl (fun r hr => hkk.2 r hr) (fun As Bs m v' q => ?_))
        · rw [up_n (fun q => hj (by omega)), hkk.1 j (fun q => hj (by omega)), up_n (fun q => hj (by omega))]
        · obtain ⟨e1, e2, -⟩ := SPm_file h.2.2.1 hn hN.1 hP hk.symm hsp v' q
          rw [e1] at e2 q
          rw [e2, ← hX] at q
          have := hw'.mpr q.symm
          cases this
    refine xG.go [2, 22, 50, 72] 60 ?_
    show (((I2 12) = (I2 11) → xG tb_M_load Q (72, [some (.ref 24), some (.int (1 : Int32)), some (.int (0 : Int32))], [], (HX I2 A2 B1), 0)) ∧ (¬ (I2 12) = (I2 11) → xG tb_M_load Q (72, [some (.ref 24), some (.int (0 : Int32)), some (.int (0 : Int32))], [], (HX I2 A2 B1), 0)))
    rw [hw.1, e12]
    refine ⟨fun z2 => ?_, fun z2 => ?_⟩
    · have el : (fileL (clF (mA A1) (mB B1) n k)).length = sz := (nI_eq (by omega) (by omega)).mp z2
      refine p_M_ld_c hsz e12 el (by rw [← el]; exact hw.2) fin sz 0 (Nat.zero_add sz) (fun j hj => by omega)
    · have hf' : false = true ↔ fileL (clF (mA A1) (mB B1) n k) = rd (A2 35) 0 sz := ⟨fun q => (by cases q), fun q => absurd (by rw [q, rd_len]) z2⟩
      refine xG.go [2, 22, 50, 84, 111] 60 ?_
      show (((I2 11) ≤ (0 : Int32) → xG tb_M_load Q (111, [some (.ref 24), some (.int (0 : Int32)), some (.int (0 : Int32))], [], (HX I2 A2 B1), 0)) ∧ (¬ (I2 11) ≤ (0 : Int32) → (((0 : Int32) = 0 → xG tb_M_load Q (111, [some (.ref 24), some (.int (0 : Int32)), some (.int (0 : Int32))], [], (HX I2 A2 B1), 0)) ∧ (¬ (0 : Int32) = 0 → xG tb_M_load Q (84, [some (.ref 24), some (.int (0 : Int32)), some (.int (0 : Int32))], [], (HX I2 A2 B1), 0)))))
      rw [e12]
      exact ⟨fun _ => fin false _ hf', fun _ => br_y rfl (fin false _ hf')⟩
