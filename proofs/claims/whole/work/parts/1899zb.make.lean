-- the reference's file, first half: the pool and the numbers used
theorem cdg_48 : ∀ j, j < 8 → cdg (nI (48 + j)) 8 = true ∧ isDig (nI (48 + j)) = true := by decide
theorem p_M_dip_l {B : Nat → Nat → Int64} {Q : xQ} {N : Nat → Int64} {d : Int64} (hm : mlen d = tlen d) (hD : ∀ i, i < tlen d → isDig (tch d (nI i)) = true → ∃ j, j < 8 ∧ tch d (nI i) = nI (48 + j) ∧ B 25 j = N j ∧ mlen (N j) = tlen (N j)) : ∀ (k i : Nat) (I : Nat → Int32) (A : Nat → Nat → Int32) (y : List Int32) (w5 : Option Value), i + k = tlen d → LN I A y → y.length + (dxF N d i k).length ≤ 62 → (∀ I' A' w5, LN I' A' (y ++ dxF N d i k) → (∀ j, ¬ j = 14 → I' j = I j) → (∀ j, ¬ j = 39 → A' j = A j) → xG tb_M_descriptorInPool Q (111, [some (.ref 24), some (.long d), none, some (.int (nI (tlen d))), some (.int (nI (tlen d))), w5], [], HX I' A' B, 0)) → xG tb_M_descriptorInPool Q (13, [some (.ref 24), some (.long d), none, some (.int (nI (tlen d))), some (.int (nI i)), w5], [], HX I A B, 0)
  | 0, i, I, A, y, w5, h, hl, hu, hq => by
    have := tlen_le d
    refine xG.go [1, 13, 22, 29, 67, 111, 112] 60 ?_
    show (((nI (tlen d)) ≤ (nI i) → xG tb_M_descriptorInPool Q (111, [some (.ref 24), some (.long d), none, some (.int (nI (tlen d))), some (.int (nI i)), w5], [], (HX I A B), 0)) ∧ (¬ (nI (tlen d)) ≤ (nI i) → xG tb_M_descriptorInPool Q (22, [some (.ref 24), some (.long d), none, some (.int (nI (tlen d))), some (.int (nI i)), w5], [.int (nI i), .long d], (HX I A B), 0)))
    obtain rfl : i = tlen d := by omega
    refine br_y (nI_le (by omega) (by omega)) (hq I A w5 ?_ (fun _ _ => rfl) (fun _ _ => rfl))
    rw [show dxF N d (tlen d) 0 = [] from rfl, List.append_nil]
    exact hl
  | k + 1, i, I, A, y, w5, h, hl, hu, hq => by
    have := tlen_le d
    have hDi := hD i (by omega)
    refine xG.go [1, 13, 22, 29, 67, 111, 112] 60 ?_
    show (((nI (tlen d)) ≤ (nI i) → xG tb_M_descriptorInPool Q (111, [some (.ref 24), some (.long d), none, some (.int (nI (tlen d))), some (.int (nI i)), w5], [], (HX I A B), 0)) ∧ (¬ (nI (tlen d)) ≤ (nI i) → xG tb_M_descriptorInPool Q (22, [some (.ref 24), some (.long d), none, some (.int (nI (tlen d))), some (.int (nI i)), w5], [.int (nI i), .long d], (HX I A B), 0)))
    refine br_n (nI_ge (by omega) (by omega)) ?_
    refine xG.call (F := xRun tb_M_charAt 3) rfl rfl (p_M_charAt (by omega) ?_)
    have ed : dxF N d i (k + 1) = (if cdg (tch d (nI i)) 8 = true then (76 :: tx (N (tch d (nI i) - 48).toNatClampNeg)) ++ [59] else [tch d (nI i)]) ++ dxF N d (i + 1) k := rfl
    rw [ed, List.length_append] at hu
    rw [ed] at hq
    generalize tch d (nI i) = ch at hu hq hDi ⊢
    refine xG.go [1, 13, 22, 29, 67, 111, 112] 60 ?_
    show xG tb_M_descriptorInPool Q (29, [some (.ref 24), some (.long d), none, some (.int (nI (tlen d))), some (.int (nI i)), some (.int ch)], [.int ch], (HX I A B), 0)
    refine xG.call (F := xRun tb_M_isDigit 1) rfl rfl (p_M_isDigit ?_)
    refine xG.go [1, 13, 22, 29, 67, 111, 112] 60 ?_
    show (((bI (isDig ch)) = 0 → (vp_in (I 14) 64 ∧ xG tb_M_descriptorInPool Q (13, [some (.ref 24), some (.long d), none, some (.int (nI (tlen d))), some (.int ((nI i) + (1 : Int32))), some (.int ch)], [], (HX (va_up I 14 ((I 14) + (1 : Int32))) (va_up A 39 (upd (A 39) (I 14).toNatClampNeg ch)) B), 0))) ∧ (¬ (bI (isDig ch)) = 0 → (vp_in (I 14) 64 ∧ (vp_in (ch - (48 : Int32)) 8 ∧ xG tb_M_descriptorInPool Q (67, [some (.ref 24), some (.long d), none, some (.int (nI (tlen d))), some (.int (nI i)), some (.int ch)], [.long ((B 25) (ch - (48 : Int32)).toNatClampNeg), .ref 24], (HX (va_up I 14 ((I 14) + (1 : Int32))) (va_up A 39 (upd (A 39) (I 14).toNatClampNeg (76 : Int32))) B), 0)))))
    cases hd : isDig ch with
    | false =>
      have hc := cdg_dig hd
      rw [hc, if_neg (by decide), List.length_singleton] at hu
      rw [hc, if_neg (by decide)] at hq
      rw [hl.1, nI_clamp (by omega), nI_1, nI_1]
      refine br_y rfl ⟨vp_in_nI (by omega) (by omega), ?_⟩
      refine p_M_dip_l hm hD k (i + 1) _ _ (y ++ [ch]) _ (by omega) ⟨?_, ?_⟩ (by rw [List.length_append, List.length_singleton]; omega) (fun I' A' w5 h1 h2 h3 => hq I' A' w5 ?_ (fun j hj => (h2 j hj).trans (up_n hj)) (fun j hj => (h3 j hj).trans (up_n hj)))
      · show nI (y.length + 1) = nI (y ++ [ch]).length
        rw [List.length_append, List.length_singleton]
      · show rd (upd (A 39) y.length ch) 0 (y ++ [ch]).length = y ++ [ch]
        rw [List.length_append, List.length_singleton, rd_snoc, hl.2]
      · rw [List.append_assoc] at h1
        exact h1
    | true =>
      obtain ⟨j, hj, ej, eB, eM⟩ := hDi hd
      subst ej
      have ej : nI (48 + j) - 48 = nI j := by
        rw [← nI_add, Int32.add_comm]
        exact Int32.add_sub_cancel _ _
      have t8 := tlen_le (N j)
      rw [(cdg_48 j hj).1, if_pos rfl, ej, nI_clamp (by omega), List.length_append, List.length_cons, tx_len, List.length_singleton] at hu
      rw [(cdg_48 j hj).1, if_pos rfl, ej, nI_clamp (by omega)] at hq
      rw [hl.1, ej, nI_clamp (by omega : j < 2 ^ 31), nI_clamp (by omega), nI_1, nI_1, eB]
      refine br_n (by decide) ⟨vp_in_nI (by omega) (by omega), vp_in_nI hj (by omega), ?_⟩
      refine xG.callV (F := xRun tb_M_spell 5) (a := 24) rfl rfl rfl rfl (p_M_spell (I := va_up I 14 (nI (y.length + 1))) (A := va_up A 39 (upd (A 39) y.length 76)) (y := y ++ [76]) eM ⟨?_, ?_⟩ (by rw [List.length_append, List.length_singleton]; omega) (fun g hg => ?_))
      · show nI (y.length + 1) = nI (y ++ [76]).length
        rw [List.length_append, List.length_singleton]
      · show rd (upd (A 39) y.length 76) 0 (y ++ [76]).length = y ++ [76]
        rw [List.length_append, List.length_singleton, rd_snoc, hl.2]
      · rw [up_up, up_up]
        have el : (y ++ [76] ++ tx (N j)).length = y.length + 1 + tlen (N j) := by rw [List.length_append, List.length_append, List.length_singleton, tx_len]
        have ey : y ++ [76] ++ tx (N j) ++ [59] = y ++ ((76 :: tx (N j)) ++ [59]) := by
          simp only [List.append_assoc, List.cons_append, List.nil_append]
        refine xG.go [1, 13, 22, 29, 67, 111, 112] 60 ?_
        show (vp_in (nI (y ++ [76] ++ tx (N j)).length) 64 ∧ xG tb_M_descriptorInPool Q (13, [some (.ref 24), some (.long d), none, some (.int (nI (tlen d))), some (.int ((nI i) + (1 : Int32))), some (.int (nI (48 + j)))], [], (HX (va_up I 14 ((nI (y ++ [76] ++ tx (N j)).length) + (1 : Int32))) (va_up A 39 (upd g (nI (y ++ [76] ++ tx (N j)).length).toNatClampNeg (59 : Int32))) B), 0))
        rw [nI_clamp (by rw [el]; omega), nI_1, nI_1]
        refine ⟨vp_in_nI (by rw [el]; omega) (by omega), ?_⟩
        refine p_M_dip_l hm hD k (i + 1) _ _ (y ++ ((76 :: tx (N j)) ++ [59])) _ (by omega) ⟨?_, ?_⟩ (by rw [List.length_append, List.length_append, List.length_cons, tx_len, List.length_singleton]; omega) (fun I' A' w5 h1 h2 h3 => hq I' A' w5 ?_ (fun j hj => (h2 j hj).trans (up_n hj)) (fun j hj => (h3 j hj).trans (up_n hj)))
        · show nI ((y ++ [76] ++ tx (N j)).length + 1) = nI (y ++ ((76 :: tx (N j)) ++ [59])).length
          rw [← ey, List.length_append (as := y ++ [76] ++ tx (N j)), List.length_singleton]
        · show rd (upd g (y ++ [76] ++ tx (N j)).length 59) 0 (y ++ ((76 :: tx (N j)) ++ [59])).length = y ++ ((76 :: tx (N j)) ++ [59])
          rw [← ey, List.length_append (as := y ++ [76] ++ tx (N j)), List.length_singleton, rd_snoc, hg]
        · rw [List.append_assoc] at h1
          exact h1
theorem p_M_descriptorInPool {I : Nat → Int32} {A : Nat → Nat → Int32} {B : Nat → Nat → Int64} {Q : xQ} {N : Nat → Int64} {d : Int64} {pl : List (List Int32)} (hm : mlen d = tlen d) (hD : ∀ i, i < tlen d → isDig (tch d (nI i)) = true → ∃ j, j < 8 ∧ tch d (nI i) = nI (48 + j) ∧ B 25 j = N j ∧ mlen (N j) = tlen (N j)) (hx : (dx N d).length ≤ 62) (hw : MP I A pl) (hp : pl.length < 14) (hq : ∀ I' A', MP I' A' (addP pl (dx N d)) → mk I I' A A' → A' 40 = A 40 → Q (.inl (some (.int (nI (kn (dx N d) pl + 1))))) (HX I' A' B) 0) : xRun tb_M_descriptorInPool 6 [.ref 24, .long d] (HX I A B) Q := by
  have h8 := tlen_le d
  refine ⟨Nat.le_of_ble_eq_true rfl, ?_⟩
  refine xG.go [1, 13, 22, 29, 67, 111, 112] 60 ?_
  show xG tb_M_descriptorInPool Q (1, [some (.ref 24), some (.long d), none, none, none, none], [.long d], (HX I A B), 0)
  refine xG.call (F := xRun tb_M_length 3) rfl rfl (p_M_length ?_)
  rw [hm]
  refine xG.go [1, 13, 22, 29, 67, 112] 20 ?_
  show xG tb_M_descriptorInPool Q (13, [some (.ref 24), some (.long d), none, some (.int (nI (tlen d))), some (.int (nI 0)), none], [], HX (va_up I 14 0) A B, 0)
  refine p_M_dip_l hm hD (tlen d) 0 (va_up I 14 0) A [] none (Nat.zero_add _) ⟨rfl, rfl⟩ (by rw [List.length_nil, Nat.zero_add]; exact hx) (fun I1 A1 w5 h1 h2 h3 => ?_)
  rw [List.nil_append] at h1
  refine xG.go [1, 22, 29, 67, 112] 60 ?_
  show xG tb_M_descriptorInPool Q (112, [some (.ref 24), some (.long d), none, some (.int (nI (tlen d))), some (.int (nI (tlen d))), w5], [.ref 24], (HX I1 A1 B), 0)
  refine xG.callV (F := xRun tb_M_pooled 4) (a := 24) rfl rfl rfl rfl (p_M_pooled (pl := pl) (y := dx N d) ⟨(h2 13 (by omega)).trans hw.1, by rw [h3 38 (by omega), h3 37 (by omega)]; exact hw.2⟩ h1 hx hp (fun I' A' g1 g2 g3 => ?_))
  refine xG.go [1, 22, 29, 67, 112] 20 ?_
  refine hq I' A' g1 ⟨fun j hj => (g2.1 j hj).trans ((h2 j (fun q => hj (by omega))).trans (up_n (fun q => hj (by omega)))), fun j hj => (g2.2 j hj).trans (h3 j (fun q => hj (by omega)))⟩ (g3.trans (h3 40 (by omega)))
def emL (f g : Nat → Int32) : Nat → Nat → List Int32
  | _, 0 => []
  | i, k + 1 => f (2 + 2 * i) :: f (3 + 2 * i) :: g i :: emL f g (i + 1) k
theorem emL_snoc (f g : Nat → Int32) : ∀ (k i : Nat), emL f g i (k + 1) = emL f g i k ++ [f (2 + 2 * (i + k)), f (3 + 2 * (i + k)), g (i + k)]
  | 0, i => rfl
  | k + 1, i => by
    have := emL_snoc f g k (i + 1)
    show f (2 + 2 * i) :: f (3 + 2 * i) :: g i :: emL f g (i + 1) (k + 1) = _
    rw [this, show i + 1 + k = i + (k + 1) by omega]
    rfl
theorem emL_upd {f g : Nat → Int32} {x : Nat} {v : Int32} : ∀ (k i : Nat), 2 + 2 * (i + k) ≤ x → emL (upd f x v) g i k = emL f g i k
  | 0, i, h => rfl
  | k + 1, i, h => by
    show upd f x v (2 + 2 * i) :: upd f x v (3 + 2 * i) :: g i :: emL (upd f x v) g (i + 1) k = _
    rw [pk_un (by omega), pk_un (by omega), emL_upd k (i + 1) (by omega)]
    rfl
theorem n2 (k : Nat) : (2 : Int32) + 2 * nI k = nI (2 + 2 * k) := by
  have e : (2 : Int32) = nI 2 := rfl
  rw [e, nI_mul, nI_add]
theorem n3 (k : Nat) : (3 : Int32) + 2 * nI k = nI (3 + 2 * k) := by
  have e : (2 : Int32) = nI 2 := rfl
  have e' : (3 : Int32) = nI 3 := rfl
  rw [e, e', nI_mul, nI_add]
/-- the reference has the same class -/
abbrev mOk (A : Nat → Nat → Int32) (B : Nat → Nat → Int64) (As : Nat → Nat → Int32) (Bs : Nat → Nat → Int64) (c m : Nat) : Prop :=
  (B 25 c = Bs 2 c ∧ mlen (Bs 2 c) = tlen (Bs 2 c)) ∧ A 27 c = As 4 c ∧ (∀ p, As 4 c = nI p → p < 8 → B 25 p = Bs 2 p ∧ mlen (Bs 2 p) = tlen (Bs 2 p)) ∧ A 28 c = As 5 c ∧ A 29 c = nI m ∧
  ∀ j, j < m → (B 30 (8 * c + j) = Bs 8 (8 * c + j) ∧ mlen (Bs 8 (8 * c + j)) = tlen (Bs 8 (8 * c + j))) ∧ (B 32 (8 * c + j) = Bs 10 (8 * c + j) ∧ mlen (Bs 10 (8 * c + j)) = tlen (Bs 10 (8 * c + j)) ∧ ∀ i, i < tlen (Bs 10 (8 * c + j)) → isDig (tch (Bs 10 (8 * c + j)) (nI i)) = true → ∃ e, e < 8 ∧ tch (Bs 10 (8 * c + j)) (nI i) = nI (48 + e) ∧ B 25 e = Bs 2 e ∧ mlen (Bs 2 e) = tlen (Bs 2 e)) ∧ A 33 (8 * c + j) = As 11 (8 * c + j)
theorem p_M_make_1 {A As : Nat → Nat → Int32} {B Bs : Nat → Nat → Int64} {Q : xQ} {c m : Nat} (hf : fOk As Bs c m) (ho : mOk A B As Bs c m) : ∀ (k j : Nat) (I' : Nat → Int32) (A' : Nat → Nat → Int32) (s : fst_), j + k = m → MP I' A' s.1 → s.1.length + 2 * k ≤ 14 → s.2 = A' 40 0 :: A' 40 1 :: n01 (As 5 c) :: As 6 c :: emL (A' 40) (fun i => n01 (As 11 (8 * c + i))) 0 j → (∀ i, ¬ (i = 36 ∨ i = 37 ∨ i = 38 ∨ i = 39 ∨ i = 40) → A' i = A i) → (∀ I'' A'' w2, MP I'' A'' (clM As Bs c k j s).1 → (clM As Bs c k j s).2 = A'' 40 0 :: A'' 40 1 :: n01 (As 5 c) :: As 6 c :: emL (A'' 40) (fun i => n01 (As 11 (8 * c + i))) 0 m → mk I' I'' A' A'' → xG tb_M_make Q (123, [some (.ref 24), some (.int (nI c)), w2, none], [], HX I'' A'' B, 0)) → xG tb_M_make Q (57, [some (.ref 24), some (.int (nI c)), some (.int (nI j)), none], [], HX I' A' B, 0)
  | 0, j, I', A', s, h, hw, hl, hs, hA, hq => by
    obtain ⟨f1, f2, f3, f4, f5⟩ := hf
    refine xG.go [17, 51, 57, 88, 113, 123, 132, 140, 160, 187, 209, 219, 237, 247, 273, 287, 310] 60 ?_
    show (vp_in (nI c) 8 ∧ ((((A' 29) (nI c).toNatClampNeg) ≤ (nI j) → xG tb_M_make Q (123, [some (.ref 24), some (.int (nI c)), some (.int (nI j)), none], [], (HX I' A' B), 0)) ∧ (¬ ((A' 29) (nI c).toNatClampNeg) ≤ (nI j) → (vp_in (((8 : Int32) * (nI c)) + (nI j)) 64 ∧ xG tb_M_make Q (88, [some (.ref 24), some (.int (nI c)), some (.int (nI j)), none], [.long ((B 30) (((8 : Int32) * (nI c)) + (nI j)).toNatClampNeg), .ref 24, .int ((2 : Int32) + ((2 : Int32) * (nI j))), .ref 40], (HX I' A' B), 0)))))
    rw [nI_clamp (by omega), hA 29 (by omega), ho.2.2.2.2.1]
    obtain rfl : j = m := by omega
    exact ⟨vp_in_nI f1 (by omega), br_y (nI_le (by omega) (by omega)) (hq I' A' _ hw hs mk_refl)⟩
  | k + 1, j, I', A', s, h, hw, hl, hs, hA, hq => by
    have hf' := hf
    obtain ⟨f1, f2, f3, f4, f5⟩ := hf'
    obtain ⟨⟨o1, o1'⟩, ⟨o2, o2', o2''⟩, o3⟩ := ho.2.2.2.2.2 j (by omega)
    refine xG.go [17, 51, 57, 88, 113, 123, 132, 140, 160, 187, 209, 219, 237, 247, 273, 287, 310] 60 ?_
    show (vp_in (nI c) 8 ∧ ((((A' 29) (nI c).toNatClampNeg) ≤ (nI j) → xG tb_M_make Q (123, [some (.ref 24), some (.int (nI c)), some (.int (nI j)), none], [], (HX I' A' B), 0)) ∧ (¬ ((A' 29) (nI c).toNatClampNeg) ≤ (nI j) → (vp_in (((8 : Int32) * (nI c)) + (nI j)) 64 ∧ xG tb_M_make Q (88, [some (.ref 24), some (.int (nI c)), some (.int (nI j)), none], [.long ((B 30) (((8 : Int32) * (nI c)) + (nI j)).toNatClampNeg), .ref 24, .int ((2 : Int32) + ((2 : Int32) * (nI j))), .ref 40], (HX I' A' B), 0)))))
    rw [nI_clamp (by omega), hA 29 (by omega), ho.2.2.2.2.1, n2, nI_num, nI_clamp (by omega), o1]
    refine ⟨vp_in_nI f1 (by omega), br_n (nI_ge (by omega) (by omega)) ⟨vp_in_nI (by omega) (by omega), ?_⟩⟩
    refine xG.callV (F := xRun tb_M_nameInPool 3) (a := 24) rfl rfl rfl rfl (p_M_nameInPool o1' hw (by omega) (fun I1 A1 hw1 hk1 e1 => ?_))
    refine xG.go [17, 51, 57, 88, 113, 123, 132, 140, 160, 187, 209, 219, 237, 247, 273, 287, 310] 60 ?_
    show (vp_in (nI (2 + 2 * j)) 14 ∧ (vp_in (((8 : Int32) * (nI c)) + (nI j)) 64 ∧ xG tb_M_make Q (113, [some (.ref 24), some (.int (nI c)), some (.int (nI j)), none], [.long ((B 32) (((8 : Int32) * (nI c)) + (nI j)).toNatClampNeg), .ref 24, .int ((3 : Int32) + ((2 : Int32) * (nI j))), .ref 40], (HX I1 (va_up A1 40 (upd (A1 40) (nI (2 + 2 * j)).toNatClampNeg (nI (kn (tx (Bs 8 (8 * c + j))) s.1 + 1)))) B), 0)))
    rw [n3, nI_num, nI_clamp (by omega), nI_clamp (by omega), o2]
    refine ⟨vp_in_nI (by omega) (by omega), vp_in_nI (by omega) (by omega), ?_⟩
    have l1 := opT_len s (tx (Bs 8 (8 * c + j)))
    refine xG.callV (F := xRun tb_M_descriptorInPool 6) (a := 24) rfl rfl rfl rfl (p_M_descriptorInPool (A := va_up A1 40 (upd (A1 40) (2 + 2 * j) (nI (kn (tx (Bs 8 (8 * c + j))) s.1 + 1)))) (N := Bs 2) (pl := (opT s (tx (Bs 8 (8 * c + j)))).1) o2' o2'' (f5 j (by omega)) hw1 (by omega) (fun I2 A2 hw2 hk2 e2 => ?_))
    generalize ev : nI (kn (dx (Bs 2) (Bs 10 (8 * c + j))) (opT s (tx (Bs 8 (8 * c + j)))).1 + 1) = v2
    have l2 := opT_len (opT s (tx (Bs 8 (8 * c + j)))) (dx (Bs 2) (Bs 10 (8 * c + j)))
    refine xG.go [17, 51, 57, 88, 113, 123, 132, 140, 160, 187, 209, 219, 237, 247, 273, 287, 310] 60 ?_
    show (vp_in (nI (3 + 2 * j)) 14 ∧ xG tb_M_make Q (57, [some (.ref 24), some (.int (nI c)), some (.int ((nI j) + (1 : Int32))), none], [], (HX I2 (va_up A2 40 (upd (A2 40) (nI (3 + 2 * j)).toNatClampNeg v2)) B), 0))
    rw [nI_clamp (by omega), nI_1]
    have e2' : A2 40 = upd (A' 40) (2 + 2 * j) (nI (kn (tx (Bs 8 (8 * c + j))) s.1 + 1)) := by
      rw [e2, ← e1]
      rfl
    have hAA : ∀ i, ¬ (i = 36 ∨ i = 37 ∨ i = 38 ∨ i = 39 ∨ i = 40) → va_up A2 40 (upd (A2 40) (3 + 2 * j) v2) i = A' i := fun i hi => by
      rw [up_n (fun q => hi (by omega)), hk2.2 i hi, up_n (fun q => hi (by omega)), hk1.2 i hi]
    refine ⟨vp_in_nI (by omega) (by omega), p_M_make_1 hf ho k (j + 1) I2 (va_up A2 40 (upd (A2 40) (3 + 2 * j) v2)) (opN (opT (opT s (tx (Bs 8 (8 * c + j)))) (dx (Bs 2) (Bs 10 (8 * c + j)))) (n01 (As 11 (8 * c + j)))) (by omega) hw2 ?_ ?_ (fun i hi => (hAA i hi).trans (hA i hi)) (fun I3 A3 w2 q1 q2 q3 => hq I3 A3 w2 q1 q2 (mk_trans ⟨fun i hi => (hk2.1 i hi).trans (hk1.1 i hi), hAA⟩ q3))⟩
    · show (opT (opT s (tx (Bs 8 (8 * c + j)))) (dx (Bs 2) (Bs 10 (8 * c + j)))).1.length + 2 * k ≤ 14
      omega
    · show (s.2 ++ [nI (kn (tx (Bs 8 (8 * c + j))) s.1 + 1)]) ++ [nI (kn (dx (Bs 2) (Bs 10 (8 * c + j))) (opT s (tx (Bs 8 (8 * c + j)))).1 + 1)] ++ [n01 (As 11 (8 * c + j))] = upd (A2 40) (3 + 2 * j) v2 0 :: upd (A2 40) (3 + 2 * j) v2 1 :: n01 (As 5 c) :: As 6 c :: emL (upd (A2 40) (3 + 2 * j) v2) (fun i => n01 (As 11 (8 * c + i))) 0 (j + 1)
      rw [ev, e2', emL_snoc, Nat.zero_add, emL_upd j 0 (by omega), emL_upd j 0 (by omega), pk_un (by omega), pk_un (by omega), pk_un (by omega), pk_un (by omega), pk_us, pk_un (by omega), pk_us, hs]
      simp only [List.append_assoc, List.cons_append, List.nil_append]
