-- the reference's file, second half: what is emitted
abbrev MM (I : Nat → Int32) (A : Nat → Nat → Int32) (xs : List Int32) : Prop := I 12 = nI xs.length ∧ rd (A 36) 0 xs.length = xs
abbrev k2 (I I' : Nat → Int32) (A A' : Nat → Nat → Int32) : Prop := (∀ j, ¬ j = 12 → I' j = I j) ∧ (∀ j, ¬ j = 36 → A' j = A j)
theorem k2_refl {I : Nat → Int32} {A : Nat → Nat → Int32} : k2 I I A A := ⟨fun _ _ => rfl, fun _ _ => rfl⟩
theorem k2_trans {I I' I'' : Nat → Int32} {A A' A'' : Nat → Nat → Int32} (h : k2 I I' A A') (h' : k2 I' I'' A' A'') : k2 I I'' A A'' :=
  ⟨fun j hj => (h'.1 j hj).trans (h.1 j hj), fun j hj => (h'.2 j hj).trans (h.2 j hj)⟩
theorem p_M_emit {I : Nat → Int32} {A : Nat → Nat → Int32} {B : Nat → Nat → Int64} {Q : xQ} {xs : List Int32} {x : Int32} (hw : MM I A xs) (hl : xs.length < 480) (hq : ∀ I' A', MM I' A' (xs ++ [x]) → k2 I I' A A' → Q (.inl none) (HX I' A' B) 0) : xRun tb_M_emit 2 [.ref 24, .int x] (HX I A B) Q := by
  refine ⟨Nat.le_of_ble_eq_true rfl, ?_⟩
  refine xG.go [] 60 ?_
  show (vp_in (I 12) 480 ∧ Q (.inl none) (HX (va_up I 12 ((I 12) + (1 : Int32))) (va_up A 36 (upd (A 36) (I 12).toNatClampNeg x)) B) 0)
  rw [hw.1, nI_clamp (by omega), nI_1]
  refine ⟨vp_in_nI hl (by omega), hq _ _ ⟨?_, ?_⟩ ⟨fun j hj => up_n hj, fun j hj => up_n hj⟩⟩
  · show nI (xs.length + 1) = nI (xs ++ [x]).length
    rw [List.length_append, List.length_singleton]
  · show rd (upd (A 36) xs.length x) 0 (xs ++ [x]).length = xs ++ [x]
    rw [List.length_append, List.length_singleton, rd_snoc, hw.2]
set_option maxRecDepth 100000 in
theorem p_M_make_i {I0 : Nat → Int32} {A0 : Nat → Nat → Int32} {B : Nat → Nat → Int64} {Q : xQ} {c p l : Nat} {R : List Int32} (hp : p < 14) (hl : l ≤ 62) (e38 : A0 38 p = nI l) (hR : R.length + l ≤ 480) (hK : ∀ I A w3, MM I A (R ++ rd (A0 37) (64 * p) l) → k2 I0 I A0 A → xG tb_M_make Q (145, [some (.ref 24), some (.int (nI c)), some (.int (nI (p + 1))), w3], [], HX I A B, 0)) : ∀ (k i : Nat) (I : Nat → Int32) (A : Nat → Nat → Int32), i + k = l → MM I A (R ++ rd (A0 37) (64 * p) i) → k2 I0 I A0 A → xG tb_M_make Q (165, [some (.ref 24), some (.int (nI c)), some (.int (nI p)), some (.int (nI i))], [], HX I A B, 0)
  | 0, i, I, A, h, hw, hk => by
    refine xG.go [17, 51, 88, 113, 132, 140, 145, 160, 165, 187, 209, 219, 237, 247, 273, 287, 310] 60 ?_
    show (vp_in (nI p) 15 ∧ ((((A 38) (nI p).toNatClampNeg) ≤ (nI i) → xG tb_M_make Q (145, [some (.ref 24), some (.int (nI c)), some (.int ((nI p) + (1 : Int32))), some (.int (nI i))], [], (HX I A B), 0)) ∧ (¬ ((A 38) (nI p).toNatClampNeg) ≤ (nI i) → (vp_in (((64 : Int32) * (nI p)) + (nI i)) 960 ∧ xG tb_M_make Q (187, [some (.ref 24), some (.int (nI c)), some (.int (nI p)), some (.int (nI i))], [.int ((A 37) (((64 : Int32) * (nI p)) + (nI i)).toNatClampNeg), .ref 24], (HX I A B), 0)))))
    rw [nI_clamp (by omega), hk.2 38 (by omega), e38, nI_1]
    obtain rfl : i = l := by omega
    exact ⟨vp_in_nI (by omega) (by omega), br_y (nI_le (by omega) (by omega)) (hK I A _ hw hk)⟩
  | k + 1, i, I, A, h, hw, hk => by
    refine xG.go [17, 51, 88, 113, 132, 140, 145, 160, 165, 187, 209, 219, 237, 247, 273, 287, 310] 60 ?_
    show (vp_in (nI p) 15 ∧ ((((A 38) (nI p).toNatClampNeg) ≤ (nI i) → xG tb_M_make Q (145, [some (.ref 24), some (.int (nI c)), some (.int ((nI p) + (1 : Int32))), some (.int (nI i))], [], (HX I A B), 0)) ∧ (¬ ((A 38) (nI p).toNatClampNeg) ≤ (nI i) → (vp_in (((64 : Int32) * (nI p)) + (nI i)) 960 ∧ xG tb_M_make Q (187, [some (.ref 24), some (.int (nI c)), some (.int (nI p)), some (.int (nI i))], [.int ((A 37) (((64 : Int32) * (nI p)) + (nI i)).toNatClampNeg), .ref 24], (HX I A B), 0)))))
    rw [nI_clamp (by omega), hk.2 38 (by omega), e38, n64, nI_clamp (by omega), hk.2 37 (by omega)]
    refine ⟨vp_in_nI (by omega) (by omega), br_n (nI_ge (by omega) (by omega)) ⟨vp_in_nI (by omega) (by omega), ?_⟩⟩
    refine xG.callV (F := xRun tb_M_emit 2) (a := 24) rfl rfl rfl rfl (p_M_emit hw (by rw [List.length_append, rd_len]; omega) (fun I1 A1 hw1 hk1 => ?_))
    refine xG.go [17, 51, 88, 113, 132, 140, 160, 165, 187, 209, 219, 237, 247, 273, 287, 310] 20 ?_
    show xG tb_M_make Q (165, [some (.ref 24), some (.int (nI c)), some (.int (nI p)), some (.int (nI i + 1))], [], HX I1 A1 B, 0)
    rw [nI_1]
    refine p_M_make_i hp hl e38 hR hK k (i + 1) I1 A1 (by omega) ?_ (k2_trans hk hk1)
    rw [rd_add, rd_1, ← List.append_assoc]
    exact hw1
set_option maxRecDepth 100000 in
theorem p_M_make_p {I0 : Nat → Int32} {A0 : Nat → Nat → Int32} {B : Nat → Nat → Int64} {Q : xQ} {c : Nat} {pl : List (List Int32)} (hl : pl.length ≤ 14) (hM : MP I0 A0 pl) (hR : 2 + (fl pl).length ≤ 480) (hK : ∀ I A w2 w3, MM I A (202 :: nI pl.length :: fl pl) → k2 I0 I A0 A → xG tb_M_make Q (202, [some (.ref 24), some (.int (nI c)), w2, w3], [], HX I A B, 0)) : ∀ (k p : Nat) (I : Nat → Int32) (A : Nat → Nat → Int32) (w3 : Option Value), p + k = pl.length → MM I A (202 :: nI pl.length :: fl (pl.take p)) → k2 I0 I A0 A → xG tb_M_make Q (145, [some (.ref 24), some (.int (nI c)), some (.int (nI p)), w3], [], HX I A B, 0)
  | 0, p, I, A, w3, h, hw, hk => by
    refine xG.go [17, 51, 88, 113, 132, 140, 145, 160, 165, 187, 202, 209, 219, 237, 247, 273, 287, 310] 60 ?_
    show (((I 13) ≤ (nI p) → xG tb_M_make Q (202, [some (.ref 24), some (.int (nI c)), some (.int (nI p)), w3], [], (HX I A B), 0)) ∧ (¬ (I 13) ≤ (nI p) → (vp_in (nI p) 15 ∧ xG tb_M_make Q (160, [some (.ref 24), some (.int (nI c)), some (.int (nI p)), w3], [.int ((A 38) (nI p).toNatClampNeg), .ref 24], (HX I A B), 0))))
    rw [hk.1 13 (by omega), hM.1]
    obtain rfl : p = pl.length := by omega
    rw [List.take_length] at hw
    exact br_y (nI_le (by omega) (by omega)) (hK I A _ _ hw hk)
  | k + 1, p, I, A, w3, h, hw, hk => by
    have hpl : p < pl.length := by omega
    obtain ⟨q1, q2, q3⟩ := hM.2 p hpl
    have hsp := fl_split hpl
    have hlen := congrArg List.length hsp
    rw [List.length_append, List.length_append, List.length_cons] at hlen
    refine xG.go [17, 51, 88, 113, 132, 140, 145, 160, 165, 187, 202, 209, 219, 237, 247, 273, 287, 310] 60 ?_
    show (((I 13) ≤ (nI p) → xG tb_M_make Q (202, [some (.ref 24), some (.int (nI c)), some (.int (nI p)), w3], [], (HX I A B), 0)) ∧ (¬ (I 13) ≤ (nI p) → (vp_in (nI p) 15 ∧ xG tb_M_make Q (160, [some (.ref 24), some (.int (nI c)), some (.int (nI p)), w3], [.int ((A 38) (nI p).toNatClampNeg), .ref 24], (HX I A B), 0))))
    rw [hk.1 13 (by omega), hM.1, nI_clamp (by omega), hk.2 38 (by omega), q1]
    refine br_n (nI_ge (by omega) (by omega)) ⟨vp_in_nI (by omega) (by omega), ?_⟩
    refine xG.callV (F := xRun tb_M_emit 2) (a := 24) rfl rfl rfl rfl (p_M_emit hw (by rw [List.length_cons, List.length_cons]; omega) (fun I1 A1 hw1 hk1 => ?_))
    refine xG.go [17, 51, 88, 113, 132, 140, 160, 165, 187, 209, 219, 237, 247, 273, 287, 310] 20 ?_
    show xG tb_M_make Q (165, [some (.ref 24), some (.int (nI c)), some (.int (nI p)), some (.int (nI 0))], [], HX I1 A1 B, 0)
    refine p_M_make_i (R := (202 :: nI pl.length :: fl (pl.take p)) ++ [nI pl[p].length]) (by omega) q3 q1 (by rw [List.length_append, List.length_cons, List.length_cons, List.length_singleton]; omega) (fun I2 A2 w3 hw2 hk2 => ?_) pl[p].length 0 I1 A1 (Nat.zero_add _) (by rw [show rd (A0 37) (64 * p) 0 = [] from rfl, List.append_nil]; exact hw1) (k2_trans hk hk1)
    refine p_M_make_p hl hM hR hK k (p + 1) I2 A2 w3 (by omega) ?_ hk2
    have et : pl.take (p + 1) = pl.take p ++ [pl[p]] := by rw [List.take_append_getElem]
    rw [q2] at hw2
    rw [et, fl_app, fl_1]
    have ee : (202 :: nI pl.length :: fl (pl.take p)) ++ [nI pl[p].length] ++ pl[p] = 202 :: nI pl.length :: (fl (pl.take p) ++ (nI pl[p].length :: pl[p])) := by
      simp only [List.append_assoc, List.cons_append, List.nil_append]
    rw [ee] at hw2
    exact hw2
set_option maxRecDepth 100000 in
theorem p_M_make_m {I0 : Nat → Int32} {A0 : Nat → Nat → Int32} {B : Nat → Nat → Int64} {Q : xQ} {c m : Nat} {R : List Int32} {g : Nat → Int32} {w3 : Option Value} (hc : c < 8) (hm : m ≤ 6) (e29 : A0 29 c = nI m) (hg : ∀ j, j < m → g j = n01 (A0 33 (8 * c + j))) (hR : R.length + 3 * m ≤ 480) (hK : ∀ I A, MM I A (R ++ emL (A0 40) g 0 m) → k2 I0 I A0 A → Q (.inl none) (HX I A B) 0) : ∀ (k j : Nat) (I : Nat → Int32) (A : Nat → Nat → Int32), j + k = m → MM I A (R ++ emL (A0 40) g 0 j) → (emL (A0 40) g 0 j).length = 3 * j → k2 I0 I A0 A → xG tb_M_make Q (252, [some (.ref 24), some (.int (nI c)), some (.int (nI j)), w3], [], HX I A B, 0)
  | 0, j, I, A, h, hw, hlj, hk => by
    refine xG.go [17, 51, 88, 113, 132, 140, 160, 187, 209, 219, 237, 247, 252, 273, 287, 310] 60 ?_
    show (vp_in (nI c) 8 ∧ ((((A 29) (nI c).toNatClampNeg) ≤ (nI j) → Q (.inl none) (HX I A B) 0) ∧ (¬ ((A 29) (nI c).toNatClampNeg) ≤ (nI j) → (vp_in ((2 : Int32) + ((2 : Int32) * (nI j))) 14 ∧ xG tb_M_make Q (273, [some (.ref 24), some (.int (nI c)), some (.int (nI j)), w3], [.int ((A 40) ((2 : Int32) + ((2 : Int32) * (nI j))).toNatClampNeg), .ref 24], (HX I A B), 0)))))
    rw [nI_clamp (by omega), hk.2 29 (by omega), e29]
    obtain rfl : j = m := by omega
    exact ⟨vp_in_nI hc (by omega), br_y (nI_le (by omega) (by omega)) (hK I A hw hk)⟩
  | k + 1, j, I, A, h, hw, hlj, hk => by
    have hgj := hg j (by omega)
    refine xG.go [17, 51, 88, 113, 132, 140, 160, 187, 209, 219, 237, 247, 252, 273, 287, 310] 60 ?_
    show (vp_in (nI c) 8 ∧ ((((A 29) (nI c).toNatClampNeg) ≤ (nI j) → Q (.inl none) (HX I A B) 0) ∧ (¬ ((A 29) (nI c).toNatClampNeg) ≤ (nI j) → (vp_in ((2 : Int32) + ((2 : Int32) * (nI j))) 14 ∧ xG tb_M_make Q (273, [some (.ref 24), some (.int (nI c)), some (.int (nI j)), w3], [.int ((A 40) ((2 : Int32) + ((2 : Int32) * (nI j))).toNatClampNeg), .ref 24], (HX I A B), 0)))))
    rw [nI_clamp (by omega), hk.2 29 (by omega), e29, n2, nI_clamp (by omega), hk.2 40 (by omega)]
    refine ⟨vp_in_nI hc (by omega), br_n (nI_ge (by omega) (by omega)) ⟨vp_in_nI (by omega) (by omega), ?_⟩⟩
    refine xG.callV (F := xRun tb_M_emit 2) (a := 24) rfl rfl rfl rfl (p_M_emit hw (by rw [List.length_append, hlj]; omega) (fun I1 A1 hw1 hk1 => ?_))
    refine xG.go [17, 51, 88, 113, 132, 140, 160, 187, 209, 219, 237, 247, 252, 273, 287, 310] 60 ?_
    show (vp_in ((3 : Int32) + ((2 : Int32) * (nI j))) 14 ∧ xG tb_M_make Q (287, [some (.ref 24), some (.int (nI c)), some (.int (nI j)), w3], [.int ((A1 40) ((3 : Int32) + ((2 : Int32) * (nI j))).toNatClampNeg), .ref 24], (HX I1 A1 B), 0))
    rw [n3, nI_clamp (by omega), hk1.2 40 (by omega), hk.2 40 (by omega)]
    refine ⟨vp_in_nI (by omega) (by omega), ?_⟩
    refine xG.callV (F := xRun tb_M_emit 2) (a := 24) rfl rfl rfl rfl (p_M_emit hw1 (by rw [List.length_append, List.length_append, hlj, List.length_singleton]; omega) (fun I2 A2 hw2 hk2 => ?_))
    refine xG.go [17, 51, 88, 113, 132, 140, 160, 187, 209, 219, 237, 247, 252, 273, 287, 310] 60 ?_
    show (vp_in (((8 : Int32) * (nI c)) + (nI j)) 64 ∧ ((((A2 33) (((8 : Int32) * (nI c)) + (nI j)).toNatClampNeg) = 0 → xG tb_M_make Q (310, [some (.ref 24), some (.int (nI c)), some (.int (nI j)), w3], [.int (0 : Int32), .ref 24], (HX I2 A2 B), 0)) ∧ (¬ ((A2 33) (((8 : Int32) * (nI c)) + (nI j)).toNatClampNeg) = 0 → xG tb_M_make Q (310, [some (.ref 24), some (.int (nI c)), some (.int (nI j)), w3], [.int (1 : Int32), .ref 24], (HX I2 A2 B), 0))))
    rw [nI_num, nI_clamp (by omega), hk2.2 33 (by omega), hk1.2 33 (by omega), hk.2 33 (by omega)]
    have key : ∀ x, x = g j → xG tb_M_make Q (310, [some (.ref 24), some (.int (nI c)), some (.int (nI j)), w3], [.int x, .ref 24], HX I2 A2 B, 0) := by
      rintro x rfl
      refine xG.callV (F := xRun tb_M_emit 2) (a := 24) rfl rfl rfl rfl (p_M_emit hw2 (by rw [List.length_append, List.length_append, List.length_append, hlj, List.length_singleton, List.length_singleton]; omega) (fun I3 A3 hw3 hk3 => ?_))
      refine xG.go [17, 51, 88, 113, 132, 140, 160, 187, 209, 219, 237, 247, 252, 273, 287, 310] 20 ?_
      show xG tb_M_make Q (252, [some (.ref 24), some (.int (nI c)), some (.int (nI j + 1)), w3], [], HX I3 A3 B, 0)
      rw [nI_1]
      have es := emL_snoc (A0 40) g j 0
      rw [Nat.zero_add] at es
      refine p_M_make_m hc hm e29 hg hR hK k (j + 1) I3 A3 (by omega) ?_ (by rw [es, List.length_append, hlj]; rfl) (k2_trans hk (k2_trans hk1 (k2_trans hk2 hk3)))
      rw [es]
      have ee : R ++ emL (A0 40) g 0 j ++ [A0 40 (2 + 2 * j)] ++ [A0 40 (3 + 2 * j)] ++ [g j] = R ++ (emL (A0 40) g 0 j ++ [A0 40 (2 + 2 * j), A0 40 (3 + 2 * j), g j]) := by
        simp only [List.append_assoc, List.cons_append, List.nil_append]
      rw [ee] at hw3
      exact hw3
    exact ⟨vp_in_nI (by omega) (by omega), fun q => key 0 (by rw [hgj]; exact (if_pos q).symm), fun q => key 1 (by rw [hgj]; exact (if_neg q).symm)⟩
set_option maxRecDepth 100000 in
theorem p_M_make_2 {A As : Nat → Nat → Int32} {Bs : Nat → Nat → Int64} {I0 : Nat → Int32} {A0 : Nat → Nat → Int32} {B : Nat → Nat → Int64} {Q : xQ} {c m : Nat} {s : fst_} {w2 : Option Value} (hf : fOk As Bs c m) (ho : mOk A B As Bs c m) (hA : ∀ i, ¬ (i = 36 ∨ i = 37 ∨ i = 38 ∨ i = 39 ∨ i = 40) → A0 i = A i) (hM : MP I0 A0 s.1) (hl : s.1.length ≤ 14) (hs : s.2 = A0 40 0 :: A0 40 1 :: n01 (As 5 c) :: As 6 c :: emL (A0 40) (fun i => n01 (As 11 (8 * c + i))) 0 m) (hL : (fileL s).length ≤ 474) (hq : ∀ I' A', MM I' A' (fileL s) → mk I0 I' A0 A' → Q (.inl none) (HX I' A' B) 0) : xG tb_M_make Q (123, [some (.ref 24), some (.int (nI c)), w2, none], [], HX I0 A0 B, 0) := by
  obtain ⟨f1, f2, f3, f4, f5⟩ := hf
  have hin : vp_in (nI c) 8 := vp_in_nI f1 (by omega)
  have hk2m : ∀ {I A}, k2 I0 I A0 A → mk I0 I A0 A := fun h => ⟨fun j hj => h.1 j (fun q => hj (by omega)), fun j hj => h.2 j (fun q => hj (by omega))⟩
  have hfl : 2 + (fl s.1).length + s.2.length ≤ 474 := by
    unfold fileL at hL
    rw [List.length_append, List.length_cons, List.length_cons] at hL
    omega
  have emlen : ∀ (f g : Nat → Int32) (k i : Nat), (emL f g i k).length = 3 * k := fun f g k => by
    induction k with
    | zero => exact fun i => rfl
    | succ k ih =>
      intro i
      show (emL f g (i + 1) k).length + 1 + 1 + 1 = _
      rw [ih]
      omega
  have hs2 : s.2.length = 4 + 3 * m := by
    rw [hs, List.length_cons, List.length_cons, List.length_cons, List.length_cons, emlen]
    omega
  refine xG.go [17, 51, 88, 113, 132, 140, 145, 160, 187, 209, 219, 237, 247, 273, 287, 310] 60 ?_
  show xG tb_M_make Q (132, [some (.ref 24), some (.int (nI c)), w2, none], [.int (202 : Int32), .ref 24], (HX (va_up I0 12 (0 : Int32)) A0 B), 0)
  refine xG.callV (F := xRun tb_M_emit 2) (a := 24) rfl rfl rfl rfl (p_M_emit (I := va_up I0 12 0) (xs := []) ⟨rfl, rfl⟩ (by decide) (fun I1 A1 hw1 hk1 => ?_))
  have hk1' : k2 I0 I1 A0 A1 := ⟨fun j hj => (hk1.1 j hj).trans (up_n hj), hk1.2⟩
  rw [List.nil_append] at hw1
  refine xG.go [17, 51, 88, 113, 132, 140, 145, 160, 187, 209, 219, 237, 247, 273, 287, 310] 60 ?_
  show xG tb_M_make Q (140, [some (.ref 24), some (.int (nI c)), w2, none], [.int (I1 13), .ref 24], (HX I1 A1 B), 0)
  rw [hk1'.1 13 (by omega), hM.1]
  refine xG.callV (F := xRun tb_M_emit 2) (a := 24) rfl rfl rfl rfl (p_M_emit hw1 (by decide) (fun I2 A2 hw2 hk2 => ?_))
  refine xG.go [17, 51, 88, 113, 132, 140, 145, 160, 187, 209, 219, 237, 247, 273, 287, 310] 20 ?_
  show xG tb_M_make Q (145, [some (.ref 24), some (.int (nI c)), some (.int (nI 0)), none], [], HX I2 A2 B, 0)
  refine p_M_make_p hl hM (by omega) (fun I3 A3 w2 w3 hw3 hk3 => ?_) s.1.length 0 I2 A2 none (Nat.zero_add _) hw2 (k2_trans hk1' hk2)
  have el : (202 :: nI s.1.length :: fl s.1).length = 2 + (fl s.1).length := by rw [List.length_cons, List.length_cons]; omega
  generalize hRR : (202 :: nI s.1.length :: fl s.1) = R at *
  refine xG.go [17, 51, 88, 113, 132, 140, 160, 187, 209, 219, 237, 247, 252, 273, 287, 310] 60 ?_
  show (vp_in (0 : Int32) 14 ∧ xG tb_M_make Q (209, [some (.ref 24), some (.int (nI c)), w2, w3], [.int ((A3 40) (0 : Int32).toNatClampNeg), .ref 24], (HX I3 A3 B), 0))
  rw [hk3.2 40 (by omega)]
  refine ⟨vp_in_nI (n := 0) (by omega) (by omega), ?_⟩
  refine xG.callV (F := xRun tb_M_emit 2) (a := 24) rfl rfl rfl rfl (p_M_emit hw3 (by omega) (fun I4 A4 hw4 hk4 => ?_))
  refine xG.go [17, 51, 88, 113, 132, 140, 160, 187, 209, 219, 237, 247, 252, 273, 287, 310] 60 ?_
  show (vp_in (1 : Int32) 14 ∧ xG tb_M_make Q (219, [some (.ref 24), some (.int (nI c)), w2, w3], [.int ((A4 40) (1 : Int32).toNatClampNeg), .ref 24], (HX I4 A4 B), 0))
  rw [hk4.2 40 (by omega), hk3.2 40 (by omega)]
  refine ⟨vp_in_nI (n := 1) (by omega) (by omega), ?_⟩
  refine xG.callV (F := xRun tb_M_emit 2) (a := 24) rfl rfl rfl rfl (p_M_emit hw4 (by rw [List.length_append, List.length_singleton]; omega) (fun I5 A5 hw5 hk5 => ?_))
  have hk35 := k2_trans hk3 (k2_trans hk4 hk5)
  refine xG.go [17, 51, 88, 113, 132, 140, 160, 187, 209, 219, 237, 247, 252, 273, 287, 310] 60 ?_
  show (vp_in (nI c) 8 ∧ ((((A5 28) (nI c).toNatClampNeg) = 0 → xG tb_M_make Q (237, [some (.ref 24), some (.int (nI c)), w2, w3], [.int (0 : Int32), .ref 24], (HX I5 A5 B), 0)) ∧ (¬ ((A5 28) (nI c).toNatClampNeg) = 0 → xG tb_M_make Q (237, [some (.ref 24), some (.int (nI c)), w2, w3], [.int (1 : Int32), .ref 24], (HX I5 A5 B), 0))))
  rw [nI_clamp (by omega), hk35.2 28 (by omega), hA 28 (by omega), ho.2.2.2.1]
  have key : ∀ x, x = n01 (As 5 c) → xG tb_M_make Q (237, [some (.ref 24), some (.int (nI c)), w2, w3], [.int x, .ref 24], HX I5 A5 B, 0) := by
    rintro x rfl
    refine xG.callV (F := xRun tb_M_emit 2) (a := 24) rfl rfl rfl rfl (p_M_emit hw5 (by rw [List.length_append, List.length_append, List.length_singleton, List.length_singleton]; omega) (fun I6 A6 hw6 hk6 => ?_))
    refine xG.go [17, 51, 88, 113, 132, 140, 160, 187, 209, 219, 237, 247, 252, 273, 287, 310] 60 ?_
    show (vp_in (nI c) 8 ∧ xG tb_M_make Q (247, [some (.ref 24), some (.int (nI c)), w2, w3], [.int ((A6 29) (nI c).toNatClampNeg), .ref 24], (HX I6 A6 B), 0))
    rw [nI_clamp (by omega), hk6.2 29 (by omega), hk35.2 29 (by omega), hA 29 (by omega), ho.2.2.2.2.1]
    refine ⟨hin, ?_⟩
    refine xG.callV (F := xRun tb_M_emit 2) (a := 24) rfl rfl rfl rfl (p_M_emit hw6 (by rw [List.length_append, List.length_append, List.length_append, List.length_singleton, List.length_singleton, List.length_singleton]; omega) (fun I7 A7 hw7 hk7 => ?_))
    refine xG.go [17, 51, 88, 113, 132, 140, 160, 187, 209, 219, 237, 247, 252, 273, 287, 310] 20 ?_
    show xG tb_M_make Q (252, [some (.ref 24), some (.int (nI c)), some (.int (nI 0)), w3], [], HX I7 A7 B, 0)
    have hk07 := k2_trans hk35 (k2_trans hk6 hk7)
    refine p_M_make_m (R := R ++ [A0 40 0] ++ [A0 40 1] ++ [n01 (As 5 c)] ++ [nI m]) (g := fun i => n01 (As 11 (8 * c + i))) f1 f3 ((congrFun (hA 29 (by omega)) c).trans ho.2.2.2.2.1) (fun j hj => ?_) (by rw [List.length_append, List.length_append, List.length_append, List.length_append, List.length_singleton, List.length_singleton, List.length_singleton, List.length_singleton]; omega) (fun I8 A8 hw8 hk8 => hq I8 A8 ?_ (hk2m hk8)) m 0 I7 A7 (Nat.zero_add m) (by rw [show emL (A0 40) (fun i => n01 (As 11 (8 * c + i))) 0 0 = [] from rfl, List.append_nil]; exact hw7) rfl hk07
    · rw [hA 33 (by omega), (ho.2.2.2.2.2 j hj).2.2]
    · have ef : fileL s = R ++ [A0 40 0] ++ [A0 40 1] ++ [n01 (As 5 c)] ++ [nI m] ++ emL (A0 40) (fun i => n01 (As 11 (8 * c + i))) 0 m := by
        unfold fileL
        rw [hRR, hs, f4]
        simp only [List.append_assoc, List.cons_append, List.nil_append]
      rw [ef]
      exact hw8
  exact ⟨hin, fun q => key 0 (if_pos q).symm, fun q => key 1 (if_neg q).symm⟩
theorem fl_add (p : List (List Int32)) (x : List Int32) : (fl (addP p x)).length ≤ (fl p).length + (1 + x.length) := by
  unfold addP
  split
  · omega
  · rw [fl_app, fl_1, List.length_append, List.length_cons]; omega
theorem clM_len {A : Nat → Nat → Int32} {B : Nat → Nat → Int64} {c m : Nat} (hx : ∀ j, j < m → (dx (B 2) (B 10 (8 * c + j))).length ≤ 62) : ∀ (k j : Nat) (s : fst_), j + k = m → (fl (clM A B c k j s).1).length ≤ (fl s.1).length + 72 * k ∧ (clM A B c k j s).2.length = s.2.length + 3 * k ∧ (clM A B c k j s).1.length ≤ s.1.length + 2 * k
  | 0, j, s, h => ⟨Nat.le_refl _, rfl, Nat.le_refl _⟩
  | k + 1, j, s, h => by
    obtain ⟨q1, q2, q3⟩ := clM_len hx k (j + 1) (opN (opT (opT s (tx (B 8 (8 * c + j)))) (dx (B 2) (B 10 (8 * c + j)))) (n01 (A 11 (8 * c + j)))) (by omega)
    have h1 := fl_add s.1 (tx (B 8 (8 * c + j)))
    have h2 := fl_add (addP s.1 (tx (B 8 (8 * c + j)))) (dx (B 2) (B 10 (8 * c + j)))
    have h3 := hx j (by omega)
    have h4 := tlen_le (B 8 (8 * c + j))
    rw [tx_len] at h1
    have l1 := opT_len s (tx (B 8 (8 * c + j)))
    have l2 := opT_len (opT s (tx (B 8 (8 * c + j)))) (dx (B 2) (B 10 (8 * c + j)))
    have l3 := opN_len (opT (opT s (tx (B 8 (8 * c + j)))) (dx (B 2) (B 10 (8 * c + j)))) (n01 (A 11 (8 * c + j)))
    have q1' : (fl (clM A B c k (j + 1) (opN (opT (opT s (tx (B 8 (8 * c + j)))) (dx (B 2) (B 10 (8 * c + j)))) (n01 (A 11 (8 * c + j))))).1).length ≤ (fl (addP (addP s.1 (tx (B 8 (8 * c + j)))) (dx (B 2) (B 10 (8 * c + j))))).length + 72 * k := q1
    refine ⟨?_, ?_, ?_⟩
    · show (fl (clM A B c k (j + 1) (opN (opT (opT s (tx (B 8 (8 * c + j)))) (dx (B 2) (B 10 (8 * c + j)))) (n01 (A 11 (8 * c + j))))).1).length ≤ _
      omega
    · show (clM A B c k (j + 1) (opN (opT (opT s (tx (B 8 (8 * c + j)))) (dx (B 2) (B 10 (8 * c + j)))) (n01 (A 11 (8 * c + j))))).2.length = _
      omega
    · show (clM A B c k (j + 1) (opN (opT (opT s (tx (B 8 (8 * c + j)))) (dx (B 2) (B 10 (8 * c + j)))) (n01 (A 11 (8 * c + j))))).1.length ≤ _
      omega
theorem cl1_len (A : Nat → Nat → Int32) (B : Nat → Nat → Int64) (c : Nat) : (fl (cl1 A B c).1).length ≤ 18 ∧ (cl1 A B c).2.length = 2 ∧ (cl1 A B c).1.length ≤ 2 := by
  have h1 := fl_add [] (tx (B 2 c))
  have h4 := tlen_le (B 2 c)
  rw [tx_len, show (fl []).length = 0 from rfl] at h1
  have l1 := opT_len ([], []) (tx (B 2 c))
  rw [show (([], []) : fst_).1.length = 0 from rfl, show (([], []) : fst_).2.length = 0 from rfl] at l1
  unfold cl1
  split
  · have l2 := opN_len (opT ([], []) (tx (B 2 c))) 0
    refine ⟨?_, by omega, by omega⟩
    show (fl (addP [] (tx (B 2 c)))).length ≤ 18
    omega
  · have h2 := fl_add (addP [] (tx (B 2 c))) (tx (B 2 (A 4 c).toNatClampNeg))
    have h5 := tlen_le (B 2 (A 4 c).toNatClampNeg)
    rw [tx_len] at h2
    have l2 := opT_len (opT ([], []) (tx (B 2 c))) (tx (B 2 (A 4 c).toNatClampNeg))
    refine ⟨?_, by omega, by omega⟩
    show (fl (addP (addP [] (tx (B 2 c))) (tx (B 2 (A 4 c).toNatClampNeg)))).length ≤ 18
    omega
theorem file_len {A : Nat → Nat → Int32} {B : Nat → Nat → Int64} {c m : Nat} (hf : fOk A B c m) : (fileL (clF A B c m)).length ≤ 474 ∧ (clF A B c m).1.length ≤ 14 := by
  obtain ⟨f1, f2, f3, f4, f5⟩ := hf
  obtain ⟨q1, q2, q3⟩ := clM_len (A := A) f5 m 0 (cl0 A B c) (Nat.zero_add m)
  obtain ⟨r1, r2, r3⟩ := cl1_len A B c
  have l1 := opN_len (cl1 A B c) (n01 (A 5 c))
  have l2 := opN_len (opN (cl1 A B c) (n01 (A 5 c))) (A 6 c)
  have q1' : (fl (clF A B c m).1).length ≤ (fl (cl1 A B c).1).length + 72 * m := q1
  have q2' : (clF A B c m).2.length = (opN (opN (cl1 A B c) (n01 (A 5 c))) (A 6 c)).2.length + 3 * m := q2
  have q3' : (clF A B c m).1.length ≤ (opN (opN (cl1 A B c) (n01 (A 5 c))) (A 6 c)).1.length + 2 * m := q3
  unfold fileL
  rw [List.length_append, List.length_cons, List.length_cons]
  omega
set_option maxRecDepth 100000 in
theorem p_M_make {I : Nat → Int32} {A : Nat → Nat → Int32} {B : Nat → Nat → Int64} {Q : xQ} {As : Nat → Nat → Int32} {Bs : Nat → Nat → Int64} {c m : Nat} (hf : fOk As Bs c m) (ho : mOk A B As Bs c m) (hq : ∀ I' A', MM I' A' (fileL (clF As Bs c m)) → mk I I' A A' → Q (.inl none) (HX I' A' B) 0) : xRun tb_M_make 4 [.ref 24, .int (nI c)] (HX I A B) Q := by
  have hf' := hf
  obtain ⟨f1, f2, f3, f4, f5⟩ := hf'
  have hin : vp_in (nI c) 8 := vp_in_nI f1 (by omega)
  obtain ⟨⟨o1, o1'⟩, o2, o3, o4, o5, o6⟩ := ho
  have ho : mOk A B As Bs c m := ⟨⟨o1, o1'⟩, o2, o3, o4, o5, o6⟩
  refine ⟨Nat.le_of_ble_eq_true rfl, ?_⟩
  refine xG.go [17, 51, 57, 88, 113, 132, 140, 160, 187, 209, 219, 237, 247, 273, 287, 310] 60 ?_
  show (vp_in (nI c) 8 ∧ xG tb_M_make Q (17, [some (.ref 24), some (.int (nI c)), none, none], [.long ((B 25) (nI c).toNatClampNeg), .ref 24, .int (0 : Int32), .ref 40], (HX (va_up I 13 (0 : Int32)) A B), 0))
  rw [nI_clamp (by omega), o1]
  refine ⟨hin, ?_⟩
  refine xG.callV (F := xRun tb_M_nameInPool 3) (a := 24) rfl rfl rfl rfl (p_M_nameInPool (I := va_up I 13 0) (pl := []) o1' ⟨rfl, fun p h => by rw [List.length_nil] at h; omega⟩ (by decide) (fun I1 A1 hw1 hk1 e1 => ?_))
  have l1 := opT_len ([], []) (tx (Bs 2 c))
  rw [show (([], []) : fst_).1.length = 0 from rfl, show (([], []) : fst_).2.length = 0 from rfl] at l1
  generalize ev : nI (kn (tx (Bs 2 c)) [] + 1) = v0
  refine xG.go [17, 51, 54, 57, 88, 113, 132, 140, 160, 187, 209, 219, 237, 247, 273, 287, 310] 60 ?_
  show (vp_in (0 : Int32) 14 ∧ (vp_in (nI c) 8 ∧ ((0 ≤ ((A1 27) (nI c).toNatClampNeg) → (vp_in (nI c) 8 ∧ (vp_in ((A1 27) (nI c).toNatClampNeg) 8 ∧ xG tb_M_make Q (51, [some (.ref 24), some (.int (nI c)), none, none], [.long ((B 25) ((A1 27) (nI c).toNatClampNeg).toNatClampNeg), .ref 24, .int (1 : Int32), .ref 40], (HX I1 (va_up A1 40 (upd (A1 40) (0 : Int32).toNatClampNeg v0)) B), 0)))) ∧ (¬ 0 ≤ ((A1 27) (nI c).toNatClampNeg) → xG tb_M_make Q (54, [some (.ref 24), some (.int (nI c)), none, none], [.int (0 : Int32), .int (1 : Int32), .ref 40], (HX I1 (va_up A1 40 (upd (A1 40) (0 : Int32).toNatClampNeg v0)) B), 0)))))
  have hk1' : mk I I1 A A1 := ⟨fun j hj => (hk1.1 j hj).trans (up_n (fun q => hj (by omega))), hk1.2⟩
  rw [nI_clamp (by omega), hk1'.2 27 (by omega), o2]
  refine ⟨vp_in_nI (n := 0) (by omega) (by omega), hin, ?_⟩
  have hAx : ∀ v i, ¬ (i = 36 ∨ i = 37 ∨ i = 38 ∨ i = 39 ∨ i = 40) → va_up A1 40 (upd (A1 40) 0 v) i = A i := fun v i hi => (up_n (fun q => hi (by omega))).trans (hk1'.2 i hi)
  obtain ⟨r1, r2, r3⟩ := cl1_len As Bs c
  have key : ∀ v I2 A2, MP I2 A2 (cl1 As Bs c).1 → (cl1 As Bs c).2 = [A2 40 0, v] → mk I I2 A A2 → xG tb_M_make Q (54, [some (.ref 24), some (.int (nI c)), none, none], [.int v, .int 1, .ref 40], HX I2 A2 B, 0) := fun v I2 A2 hw2 he hk2 => by
    refine xG.go [17, 51, 57, 88, 113, 132, 140, 160, 187, 209, 219, 237, 247, 273, 287, 310] 60 ?_
    show (vp_in (1 : Int32) 14 ∧ xG tb_M_make Q (57, [some (.ref 24), some (.int (nI c)), some (.int (0 : Int32)), none], [], (HX I2 (va_up A2 40 (upd (A2 40) (1 : Int32).toNatClampNeg v)) B), 0))
    refine ⟨vp_in_nI (n := 1) (by omega) (by omega), ?_⟩
    have hA3 : ∀ i, ¬ (i = 36 ∨ i = 37 ∨ i = 38 ∨ i = 39 ∨ i = 40) → va_up A2 40 (upd (A2 40) 1 v) i = A i := fun i hi => (up_n (fun q => hi (by omega))).trans (hk2.2 i hi)
    refine p_M_make_1 hf ho m 0 I2 (va_up A2 40 (upd (A2 40) 1 v)) (cl0 As Bs c) (Nat.zero_add m) hw2 (show (cl1 As Bs c).1.length + 2 * m ≤ 14 by omega) ?_ hA3 (fun I4 A4 w2 q1 q2 q3 => ?_)
    · show (cl1 As Bs c).2 ++ [n01 (As 5 c)] ++ [As 6 c] = upd (A2 40) 1 v 0 :: upd (A2 40) 1 v 1 :: n01 (As 5 c) :: As 6 c :: []
      rw [he, pk_us, pk_un (by omega)]
      rfl
    · have hl := file_len hf
      refine p_M_make_2 (A := A) (As := As) (Bs := Bs) (s := clF As Bs c m) hf ho (fun i hi => (q3.2 i hi).trans (hA3 i hi)) q1 hl.2 q2 hl.1 (fun I5 A5 g1 g2 => hq I5 A5 g1 (mk_trans (mk_trans ⟨fun j hj => (q3.1 j hj).trans (hk2.1 j hj), fun j hj => (q3.2 j hj).trans (hA3 j hj)⟩ g2) mk_refl))
  rcases f2 with w | ⟨p, hp, w⟩
  · rw [w]
    have ec : cl1 As Bs c = opN (opT ([], []) (tx (Bs 2 c))) 0 := if_pos w
    refine br_n (by decide) (key 0 I1 (va_up A1 40 (upd (A1 40) 0 v0)) (by rw [ec]; exact hw1) ?_ ⟨hk1'.1, hAx v0⟩)
    rw [ec]
    show [] ++ [nI (kn (tx (Bs 2 c)) [] + 1)] ++ [0] = [upd (A1 40) 0 v0 0, 0]
    rw [pk_us, ev]
    rfl
  · have nw : ¬ As 4 c = -1 := fun q => m1_nI (by omega) (q.symm.trans w)
    have ec : cl1 As Bs c = opT (opT ([], []) (tx (Bs 2 c))) (tx (Bs 2 (As 4 c).toNatClampNeg)) := if_neg nw
    obtain ⟨p1, p2⟩ := o3 p w hp
    rw [w, nI_clamp (by omega)] at ec
    rw [w, nI_clamp (by omega), p1]
    refine br_y (nI_pos' (by omega)) ⟨hin, vp_in_nI hp (by omega), ?_⟩
    refine xG.callV (F := xRun tb_M_nameInPool 3) (a := 24) rfl rfl rfl rfl (p_M_nameInPool (A := va_up A1 40 (upd (A1 40) 0 v0)) (pl := (opT ([], []) (tx (Bs 2 c))).1) p2 hw1 (by omega) (fun I2 A2 hw2 hk2 e2 => ?_))
    refine key _ I2 A2 (by rw [ec]; exact hw2) ?_ ⟨fun j hj => (hk2.1 j hj).trans (hk1'.1 j hj), fun j hj => (hk2.2 j hj).trans (hAx v0 j hj)⟩
    rw [ec, e2]
    show [] ++ [nI (kn (tx (Bs 2 c)) [] + 1)] ++ [nI (kn (tx (Bs 2 p)) (opT ([], []) (tx (Bs 2 c))).1 + 1)] = [upd (A1 40) 0 v0 0, _]
    rw [pk_us, ev]
    rfl
