-- load, the class's side
theorem p_B_eq2_l {I : Nat → Int32} {A : Nat → Nat → Int32} {B : Nat → Nat → Int64} {Q : xQ} {k n : Nat} (hn : n ≤ 512) (e1 : I 1 = nI n) (e2 : I 2 = nI n) (hk : k ≤ n) : ∀ (c i : Nat), i + c = k → Q (.inl (some (.int (bI (decide (rd (A 15) i c = rd (A 13) i c)))))) (HX I A B) 0 → xG tb_B_hasEqualBytes Q (3, [some (.ref 14), some (.int (nI 0)), some (.ref 12), some (.int (nI 0)), some (.int (nI k)), some (.int (nI i))], [], (HX I A B), 0)
  | 0, i, h, hq => by
    refine xG.go [3, 15, 23] 60 ?_
    show (((nI k) ≤ (nI i) → (((1 : Int32) = (0 : Int32) ∨ (1 : Int32) = 1) ∧ Q (.inl (some (.int (1 : Int32)))) (HX I A B) 0)) ∧ (¬ (nI k) ≤ (nI i) → xG tb_B_hasEqualBytes Q (15, [some (.ref 14), some (.int (nI 0)), some (.ref 12), some (.int (nI 0)), some (.int (nI k)), some (.int (nI i))], [.int ((nI 0) + (nI i)), .ref 14], (HX I A B), 0)))
    exact br_y (nI_le (by omega) (by omega)) ⟨Or.inr rfl, hq⟩
  | c + 1, i, h, hq => by
    refine xG.go [3, 15, 23] 60 ?_
    show (((nI k) ≤ (nI i) → (((1 : Int32) = (0 : Int32) ∨ (1 : Int32) = 1) ∧ Q (.inl (some (.int (1 : Int32)))) (HX I A B) 0)) ∧ (¬ (nI k) ≤ (nI i) → xG tb_B_hasEqualBytes Q (15, [some (.ref 14), some (.int (nI 0)), some (.ref 12), some (.int (nI 0)), some (.int (nI k)), some (.int (nI i))], [.int ((nI 0) + (nI i)), .ref 14], (HX I A B), 0)))
    rw [nI_add, Nat.zero_add]
    refine br_n (nI_ge (by omega) (by omega)) ?_
    refine xG.callV (F := xRun tb_B_get 2) (a := 14) rfl rfl rfl rfl (p_B_get_t hn e2 ?_)
    rw [e2, isC_nI (by omega) (by omega), decide_eq_true (by omega), if_pos rfl, nI_clamp (by omega)]
    refine xG.go [3, 15, 23] 60 ?_
    show xG tb_B_hasEqualBytes Q (23, [some (.ref 14), some (.int (nI 0)), some (.ref 12), some (.int (nI 0)), some (.int (nI k)), some (.int (nI i))], [.int ((nI 0) + (nI i)), .ref 12, .int (A 15 i)], (HX I A B), 0)
    rw [nI_add, Nat.zero_add]
    refine xG.callV (F := xRun tb_B_get 2) (a := 12) rfl rfl rfl rfl (p_B_get_b hn e1 ?_)
    rw [e1, isC_nI (by omega) (by omega), decide_eq_true (by omega), if_pos rfl, nI_clamp (by omega)]
    refine xG.go [3, 15, 23] 60 ?_
    show (((A 15 i) = (A 13 i) → xG tb_B_hasEqualBytes Q (3, [some (.ref 14), some (.int (nI 0)), some (.ref 12), some (.int (nI 0)), some (.int (nI k)), some (.int ((nI i) + (1 : Int32)))], [], (HX I A B), 0)) ∧ (¬ (A 15 i) = (A 13 i) → (((0 : Int32) = (0 : Int32) ∨ (0 : Int32) = 1) ∧ Q (.inl (some (.int (0 : Int32)))) (HX I A B) 0)))
    rw [nI_1]
    have ed : decide (rd (A 15) i (c + 1) = rd (A 13) i (c + 1)) = decide (A 15 i = A 13 i ∧ rd (A 15) (i + 1) c = rd (A 13) (i + 1) c) := by
      refine decide_eq_decide.mpr ?_
      show A 15 i :: rd (A 15) (i + 1) c = A 13 i :: rd (A 13) (i + 1) c ↔ _
      rw [List.cons.injEq]
    rw [ed] at hq
    refine ⟨fun z => ?_, fun z => ?_⟩
    · refine p_B_eq2_l hn e1 e2 hk c (i + 1) (by omega) ?_
      have : decide (A 15 i = A 13 i ∧ rd (A 15) (i + 1) c = rd (A 13) (i + 1) c) = decide (rd (A 15) (i + 1) c = rd (A 13) (i + 1) c) := decide_eq_decide.mpr ⟨fun p => p.2, fun p => ⟨z, p⟩⟩
      rw [← this]
      exact hq
    · rw [decide_eq_false (fun p => z p.1)] at hq
      exact ⟨Or.inl rfl, hq⟩
theorem p_B_isEqualTo {I : Nat → Int32} {A : Nat → Nat → Int32} {B : Nat → Nat → Int64} {Q : xQ} {n l : Nat} (hn : n ≤ 512) (hl : l ≤ 512) (e1 : I 1 = nI n) (e2 : I 2 = nI l) (hq : Q (.inl (some (.int (bI (decide (rd (A 15) 0 l = rd (A 13) 0 n)))))) (HX I A B) 0) : xRun tb_B_isEqualTo 2 [.ref 14, .ref 12] (HX I A B) Q := by
  refine ⟨Nat.le_of_ble_eq_true rfl, ?_⟩
  refine xG.go [19] 60 ?_
  show (((I 2) = (I 1) → xG tb_B_isEqualTo Q (19, [some (.ref 14), some (.ref 12)], [.int (I 2), .int (0 : Int32), .ref 12, .int (0 : Int32), .ref 14], (HX I A B), 0)) ∧ (¬ (I 2) = (I 1) → (((0 : Int32) = (0 : Int32) ∨ (0 : Int32) = 1) ∧ Q (.inl (some (.int (0 : Int32)))) (HX I A B) 0)))
  rw [e1, e2]
  refine ⟨fun z => ?_, fun z => ?_⟩
  · obtain rfl : l = n := (nI_eq (by omega) (by omega)).mp z
    refine xG.callV (F := xRun tb_B_hasEqualBytes 6) (a := 14) rfl rfl rfl rfl ⟨Nat.le_of_ble_eq_true rfl, ?_⟩
    refine xG.go [3, 15, 23] 20 ?_
    show xG tb_B_hasEqualBytes _ (3, [some (.ref 14), some (.int (nI 0)), some (.ref 12), some (.int (nI 0)), some (.int (nI l)), some (.int (nI 0))], [], (HX I A B), 0)
    refine p_B_eq2_l hn e1 e2 (Nat.le_refl l) l 0 (Nat.zero_add l) ?_
    generalize decide (rd (A 15) 0 l = rd (A 13) 0 l) = v at hq ⊢
    refine xG.go [19] 60 ?_
    show (((bI v) = 0 → (((0 : Int32) = (0 : Int32) ∨ (0 : Int32) = 1) ∧ Q (.inl (some (.int (0 : Int32)))) (HX I A B) 0)) ∧ (¬ (bI v) = 0 → (((1 : Int32) = (0 : Int32) ∨ (1 : Int32) = 1) ∧ Q (.inl (some (.int (1 : Int32)))) (HX I A B) 0)))
    cases v with
    | true => exact br_n (by decide) ⟨Or.inr rfl, hq⟩
    | false => exact br_y rfl ⟨Or.inl rfl, hq⟩
  · rw [decide_eq_false (fun w => z (by rw [rd_inj_len w]))] at hq
    exact ⟨Or.inl rfl, hq⟩
theorem p_N_isFile {I : Nat → Int32} {A : Nat → Nat → Int32} {B : Nat → Nat → Int64} {Q : xQ} {n k sz : Nat} (e0 : I 0 = nI n) (e1 : I 1 = nI sz) (hsz : sz ≤ 480) (hf : fOk A B n k) (hq : ∀ I' A', kp 2 15 5 20 6 21 I I' A A' → Q (.inl (some (.int (bI (decide (fileL (clF A B n k) = rd (A 13) 0 sz)))))) (HX I' A' B) 0) : xRun tb_N_isFileOfPlacedClass 1 [.ref 0] (HX I A B) Q := by
  refine ⟨Nat.le_of_ble_eq_true rfl, ?_⟩
  refine xG.go [11, 22] 60 ?_
  show xG tb_N_isFileOfPlacedClass Q (11, [some (.ref 0)], [.int (I 0), .ref 19], (HX I A B), 0)
  rw [e0]
  have hl := (file_len hf).1
  refine xG.callV (F := xRun tb_W_compose 5) (a := 19) rfl rfl rfl rfl (p_W_compose_t hf (fun I1 A1 q1 q2 q3 => ?_))
  refine xG.go [11, 22] 60 ?_
  show xG tb_N_isFileOfPlacedClass Q (22, [some (.ref 0)], [.ref 12, .ref 14], (HX I1 A1 B), 0)
  refine xG.callV (F := xRun tb_B_isEqualTo 2) (a := 14) rfl rfl rfl rfl (p_B_isEqualTo (n := sz) (l := (fileL (clF A B n k)).length) (by omega) (by omega) ((q3.1 1 (by omega)).trans e1) q1 ?_)
  rw [q2, q3.2 13 (by omega)]
  have hy := hq I1 A1 q3
  generalize decide (fileL (clF A B n k) = rd (A 13) 0 sz) = v at hy ⊢
  refine xG.go [11, 22] 60 ?_
  show (((bI v) = (0 : Int32) ∨ (bI v) = 1) ∧ Q (.inl (some (.int (bI v)))) (HX I1 A1 B) 0)
  exact ⟨bI01 v, hy⟩
theorem clM_agree {A A' : Nat → Nat → Int32} {B B' : Nat → Nat → Int64} {c m : Nat} (h : ∀ j, j < m → B' 8 (8 * c + j) = B 8 (8 * c + j) ∧ dx (B' 2) (B' 10 (8 * c + j)) = dx (B 2) (B 10 (8 * c + j)) ∧ A' 11 (8 * c + j) = A 11 (8 * c + j)) : ∀ (k j : Nat) (s : fst_), j + k = m → clM A' B' c k j s = clM A B c k j s
  | 0, j, s, _ => rfl
  | k + 1, j, s, e => by
    obtain ⟨h1, h2, h3⟩ := h j (by omega)
    unfold clM
    rw [h1, h2, h3, clM_agree h k (j + 1) _ (by omega)]
/-- the same class has the same file -/
theorem clF_agree {A A' : Nat → Nat → Int32} {B B' : Nat → Nat → Int64} {n m : Nat} (hn : n < 8) (h2 : ∀ j, j < n + 1 → B' 2 j = B 2 j) (h4 : A' 4 n = A 4 n) (hp : A 4 n = -1 ∨ ∃ p, p < n ∧ A 4 n = nI p) (h5 : A' 5 n = A 5 n) (h6 : A' 6 n = A 6 n) (hm : ∀ j, j < m → B' 8 (8 * n + j) = B 8 (8 * n + j) ∧ B' 10 (8 * n + j) = B 10 (8 * n + j) ∧ A' 11 (8 * n + j) = A 11 (8 * n + j)) (hd : ∀ j, j < m → dOne (B 10 (8 * n + j)) (n + 1) = true) : clF A' B' n m = clF A B n m := by
  have e0 : cl0 A' B' n = cl0 A B n := by
    unfold cl0 cl1
    rw [h4, h5, h6, h2 n (by omega)]
    rcases hp with q | ⟨p, hp, q⟩
    · rw [if_pos q, if_pos q]
    · rw [q, nI_clamp (by omega), h2 p (by omega)]
  unfold clF
  rw [e0]
  exact clM_agree (fun j hj => ⟨(hm j hj).1, by rw [(hm j hj).2.1]; exact dx_ext hn (hd j hj) h2, (hm j hj).2.2⟩) m 0 _ (Nat.zero_add m)
theorem PC_vK {I : Nat → Int32} {A : Nat → Nat → Int32} {B : Nat → Nat → Int64} {n : Nat} {t : Int64} {s b : Int32} {k : Nat} {I' : Nat → Int32} {A' : Nat → Nat → Int32} {B' : Nat → Nat → Int64} (hc : isCN t = true) (hfr : ∀ j, j < n → ¬ B 2 j = t) (hs : s = -1 ∨ ∃ p, p < n ∧ s = nI p) (hb : b = 0 ∨ b = 1) (h : PC I A B n t s b k I' A' B') : vK (B 2) n A' B' k := by
  obtain ⟨-, ⟨e4, e5, e7, e2, e3⟩, ⟨h5, h6, h7⟩, h8, h9, h10⟩ := h
  have a2 : B' 2 n = t := by rw [e2, pk_uLs]
  have a4 : A' 4 n = s := by rw [e4, pk_us]
  have a5 : A' 5 n = b := by rw [e5, pk_us]
  rw [vK, a2, a4, a5]
  exact ⟨hc, ⟨fun j hj => by rw [e2, pk_uLn (by omega)], hfr⟩, hs, hb, ⟨h6, h7⟩, fun j hj => ⟨(h9 j hj).1, (h9 j hj).2.1, (h9 j hj).2.2.1⟩, h10⟩
theorem vK_fOk {N : Nat → Int64} {n : Nat} {As : Nat → Nat → Int32} {Bs : Nat → Nat → Int64} {m : Nat} (hn : n < 8) (v : vK N n As Bs m) : fOk As Bs n m :=
  ⟨hn, v.2.2.1.elim Or.inl (fun ⟨p, hp, e⟩ => Or.inr ⟨p, by omega, e⟩), v.2.2.2.2.1.2, v.2.2.2.2.1.1, fun j hj => dx_len (dOne_ok (by omega) (v.2.2.2.2.2.1 j hj).2.1)⟩
/-- two classes with one file are the same -/
theorem SP_file {g : Nat → Nat} {sz n k m : Nat} {I : Nat → Int32} {A : Nat → Nat → Int32} {B : Nat → Nat → Int64} {t : Int64} {s b : Int32} {I' : Nat → Int32} {A' : Nat → Nat → Int32} {B' : Nat → Nat → Int64} {As : Nat → Nat → Int32} {Bs : Nat → Nat → Int64} (hg : ∀ i, g i < 256) (hn : n < 8) (hN : ∀ j, j < n → okT (B 2 j)) (hP : PC I A B n t s b k I' A' B') (hk : k = g (sp g (g 1) + 3)) (hs : SPr g sz (B 2) n t s b k A' B') (v : vK (B 2) n As Bs m) (h : rd (fun i => nI (g i)) 0 sz = fileL (clF As Bs n m)) : m = k ∧ clF As Bs n m = clF A' B' n m ∧ (Bs 2 n = B' 2 n ∧ As 4 n = A' 4 n ∧ As 5 n = A' 5 n) ∧ ∀ j, j < m → Bs 8 (8 * n + j) = B' 8 (8 * n + j) ∧ Bs 10 (8 * n + j) = B' 10 (8 * n + j) ∧ As 11 (8 * n + j) = A' 11 (8 * n + j) := by
  have ft := TG_FT hg hn hN v h
  obtain ⟨⟨q1, q2, q3⟩, q4⟩ := hs As Bs m v ft
  have em : m = k := by rw [hk]; exact ft.2.2.2.2.1.symm
  obtain ⟨-, ⟨e4, e5, e7, e2, e3⟩, ⟨h5, h6, h7⟩, h8, h9, h10⟩ := hP
  have a2 : B' 2 n = t := by rw [e2, pk_uLs]
  have a4 : A' 4 n = s := by rw [e4, pk_us]
  have a5 : A' 5 n = b := by rw [e5, pk_us]
  have hq : ∀ j, j < m → Bs 8 (8 * n + j) = B' 8 (8 * n + j) ∧ Bs 10 (8 * n + j) = B' 10 (8 * n + j) ∧ As 11 (8 * n + j) = A' 11 (8 * n + j) := fun j hj => q4 j (by omega) hj
  refine ⟨em, ?_, ⟨q1.trans a2.symm, q2.trans a4.symm, q3.trans a5.symm⟩, hq⟩
  refine clF_agree hn (fun j hj => ?_) (q2.trans a4.symm) ?_ (q3.trans a5.symm) ?_ hq (fun j hj => (h9 j (by omega)).2.1)
  · by_cases w : j = n
    · rw [w, a2]; exact q1
    · rw [e2, pk_uLn w]; exact v.2.1.1 j (by omega)
  · rw [a4, ← q2]; exact v.2.2.1
  · rw [v.2.2.2.2.1.1, h6, em]
theorem p_N_load {I : Nat → Int32} {A : Nat → Nat → Int32} {B : Nat → Nat → Int64} {Q : xQ} {n sz : Nat} {mc : Nat → Nat} {g : Nat → Nat} (h8 : n ≤ 8) (e0 : I 0 = nI n) (hm : ∀ c, c < n → mc c ≤ 6 ∧ A 6 c = nI (mc c)) (h : BY I A sz g) (hN : nOk (B 2) n)
    (h1 : (0 < chg B mc n ∨ 8 ≤ n) → Q (.inr 2) (HX I A B) 1)
    (h2 : ¬ (0 < chg B mc n ∨ 8 ≤ n) → ∀ I' A' B', KW I A B n I' A' B' → (∀ As Bs m, vK (B 2) n As Bs m → ¬ rd (fun i => nI (g i)) 0 sz = fileL (clF As Bs n m)) → Q (.inr 0) (HX I' A' B') 1)
    (h0 : ¬ (0 < chg B mc n ∨ 8 ≤ n) → ∀ t s b k I1 A1 I' A' B', isCN t = true → (∀ j, j < n → ¬ B 2 j = t) → (s = -1 ∨ ∃ p, p < n ∧ s = nI p) → (b = 0 ∨ b = 1) → PC I A B n t s b k I1 A1 B' → kp 2 15 5 20 6 21 I1 I' A1 A' → rd (fun i => nI (g i)) 0 sz = fileL (clF A1 B' n k) → Q (.inl (some (.int (nI n)))) (HX (va_up I' 0 (nI (n + 1))) A' B') 0) : xRun tb_N_load 1 [.ref 0] (HX I A B) Q := by
  refine ⟨Nat.le_of_ble_eq_true rfl, ?_⟩
  refine xG.go [4, 14, 34, 41, 61] 60 ?_
  show xG tb_N_load Q (4, [some (.ref 0)], [.ref 1], (HX I A B), 0)
  refine xG.callV (F := xRun tb_S_isMoving 1) (a := 1) rfl rfl rfl rfl (p_S_isMoving h8 e0 hm ?_)
  refine xG.go [4, 14, 34, 41, 61] 60 ?_
  show (((bI (decide (0 < chg B mc n))) = 0 → xG tb_N_load Q (14, [some (.ref 0)], [.ref 1], (HX I A B), 0)) ∧ (¬ (bI (decide (0 < chg B mc n))) = 0 → Q (.inr 2) (HX I A B) 1))
  by_cases w1 : 0 < chg B mc n
  · rw [decide_eq_true w1]
    exact br_n (by decide) (h1 (Or.inl w1))
  rw [decide_eq_false w1]
  refine br_y rfl ?_
  refine xG.callV (F := xRun tb_S_isFull 1) (a := 1) rfl rfl rfl rfl (p_S_isFull h8 e0 ?_)
  refine xG.go [4, 14, 34, 41, 61] 60 ?_
  show (((bI (decide (8 ≤ n))) = 0 → xG tb_N_load Q (34, [some (.ref 0)], [.ref 22], (HX I A B), 0)) ∧ (¬ (bI (decide (8 ≤ n))) = 0 → Q (.inr 2) (HX I A B) 1))
  by_cases w2 : 8 ≤ n
  · rw [decide_eq_true w2]
    exact br_n (by decide) (h1 (Or.inr w2))
  rw [decide_eq_false w2]
  have nw : ¬ (0 < chg B mc n ∨ 8 ≤ n) := fun q => q.elim w1 w2
  have h2 := h2 nw
  have h0 := h0 nw
  have hn : n < 8 := by omega
  refine br_y rfl ?_
  refine xG.callV (F := xRun tb_R_placeClass 6) (a := 22) rfl rfl rfl rfl (p_R_placeClass h hn e0 hN (fun I' A' B' k1 k2 => ?_) (fun t s b I1 A1 B1 hc hfr hs hb hP hsp => ?_))
  · refine xG.go [4, 14, 34, 41, 61] 60 ?_
    show (((0 : Int32) = 0 → Q (.inr 0) (HX I' A' B') 1) ∧ (¬ (0 : Int32) = 0 → xG tb_N_load Q (41, [some (.ref 0)], [.ref 0], (HX I' A' B'), 0)))
    exact br_y rfl (h2 I' A' B' k1 (fun As Bs m v q => k2 As Bs m v (TG_FT h.2.2.1 hn hN.1 v q)))
  · have v := PC_vK hc hfr hs hb hP
    have hX : rd (A1 13) 0 sz = rd (fun i => nI (g i)) 0 sz := by
      rw [hP.1.2.1 13 (by omega)]
      exact rd_eq _ _ _ (fun i hi => by rw [Nat.zero_add]; exact h.2.2.2.1 i hi)
    refine xG.go [4, 14, 34, 41, 61] 60 ?_
    show (((1 : Int32) = 0 → Q (.inr 0) (HX I1 A1 B1) 1) ∧ (¬ (1 : Int32) = 0 → xG tb_N_load Q (41, [some (.ref 0)], [.ref 0], (HX I1 A1 B1), 0)))
    refine br_n (by decide) ?_
    refine xG.callV (F := xRun tb_N_isFileOfPlacedClass 1) (a := 0) rfl rfl rfl rfl (p_N_isFile (n := n) (sz := sz) ((hP.1.1 0 (by omega)).trans e0) ((hP.1.1 1 (by omega)).trans h.1) h.2.1 (vK_fOk hn v) (fun I' A' q3 => ?_))
    rw [hX]
    by_cases w : fileL (clF A1 B1 n (g (sp g (g 1) + 3))) = rd (fun i => nI (g i)) 0 sz
    · rw [decide_eq_true w]
      refine xG.go [4, 14, 34, 41, 61] 60 ?_
      show (((bI true) = 0 → Q (.inr 0) (HX I' A' B1) 1) ∧ (¬ (bI true) = 0 → xG tb_N_load Q (61, [some (.ref 0)], [.ref 1], (HX I' A' B1), 0)))
      refine br_n (by decide) ?_
      have hy := h0 t s b _ I1 A1 I' A' B1 hc hfr hs hb hP q3 w.symm
      refine xG.callV (F := xRun tb_S_countPlacedClass 1) (a := 1) rfl rfl rfl rfl (p_S_countPlacedClass (I := I') (n := n) ((q3.1 0 (by omega)).trans ((hP.1.1 0 (by omega)).trans e0)) ?_)
      refine xG.go [4, 14, 34, 41, 61] 20 ?_
      exact hy
    · rw [decide_eq_false w]
      refine xG.go [4, 14, 34, 41, 61] 60 ?_
      show (((bI false) = 0 → Q (.inr 0) (HX I' A' B1) 1) ∧ (¬ (bI false) = 0 → xG tb_N_load Q (61, [some (.ref 0)], [.ref 1], (HX I' A' B1), 0)))
      refine br_y rfl (h2 I' A' B1 ?_ (fun As Bs m v' q => ?_))
      · obtain ⟨k1, k2, k3, k4, k5⟩ := PC_KW hP
        refine ⟨fun j hj => (q3.1 j (by omega)).trans (k1 j hj), fun r hr => (q3.2 r (by omega)).trans (k2 r hr), k3, fun x hx => ?_, fun x hx => ?_⟩
        · rw [q3.2 4 (by omega), q3.2 5 (by omega), q3.2 6 (by omega), q3.2 7 (by omega)]
          exact k4 x hx
        · rw [q3.2 11 (by omega)]
          exact k5 x hx
      · obtain ⟨e1, e2, -⟩ := SP_file h.2.2.1 hn hN.1 hP rfl hsp v' q
        rw [e1] at e2 q
        rw [e2] at q
        exact w q.symm
theorem p_L_load {I : Nat → Int32} {A : Nat → Nat → Int32} {B : Nat → Nat → Int64} {Q : xQ} {n sz : Nat} {mc : Nat → Nat} {g : Nat → Nat} (h8 : n ≤ 8) (e0 : I 0 = nI n) (hm : ∀ c, c < n → mc c ≤ 6 ∧ A 6 c = nI (mc c)) (h : BY I A sz g) (hN : nOk (B 2) n)
    (h1 : (0 < chg B mc n ∨ 8 ≤ n) → Q (.inl (some (.int 1))) (HX I A B) 1)
    (h2 : ¬ (0 < chg B mc n ∨ 8 ≤ n) → ∀ I' A' B', KW I A B n I' A' B' → (∀ As Bs m, vK (B 2) n As Bs m → ¬ rd (fun i => nI (g i)) 0 sz = fileL (clF As Bs n m)) → Q (.inl (some (.int 2))) (HX I' A' B') 1)
    (h0 : ¬ (0 < chg B mc n ∨ 8 ≤ n) → ∀ t s b k I1 A1 I' A' B', isCN t = true → (∀ j, j < n → ¬ B 2 j = t) → (s = -1 ∨ ∃ p, p < n ∧ s = nI p) → (b = 0 ∨ b = 1) → PC I A B n t s b k I1 A1 B' → kp 2 15 5 20 6 21 I1 I' A1 A' → rd (fun i => nI (g i)) 0 sz = fileL (clF A1 B' n k) → Q (.inl (some (.int 0))) (HX (va_up I' 0 (nI (n + 1))) A' (va_up B' 41 (vp_updL (B' 41) 0 (nI n).toInt64))) 0) : xRun tb_L_load 3 [.ref 0, .ref 41] (HX I A B) Q := by
  refine ⟨Nat.le_of_ble_eq_true rfl, ?_⟩
  refine xG.go [3] 60 ?_
  show xG tb_L_load Q (3, [some (.ref 0), some (.ref 41), none], [.ref 0, .int (0 : Int32), .ref 41], (HX I A B), 0)
  refine xG.callH (F := xRun tb_N_load 1) (a := 0) rfl rfl rfl rfl (p_N_load h8 e0 hm h hN (fun w => h1 w) (fun w I' A' B' k1 k2 => h2 w I' A' B' k1 k2) (fun w t s b k I1 A1 I' A' B' a1 a2 a3 a4 a5 a6 a7 => ?_))
  have hy := h0 w t s b k I1 A1 I' A' B' a1 a2 a3 a4 a5 a6 a7
  generalize nI n = v at hy ⊢
  refine xG.go [3] 30 ?_
  exact ⟨vp_in_nI (n := 0) (by omega) (by omega), hy⟩
