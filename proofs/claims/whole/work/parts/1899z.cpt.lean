theorem p_W_useDesc_mt {B : Nat → Nat → Int64} {Q : xQ} {pl : List (List Int32)} {bh : List Int32} {z v : Int32} {d : Int64} : ∀ (c i : Nat) (I : Nat → Int32) (A : Nat → Nat → Int32) (y : List Int32) (w5 : Option Value), i + c = tlen d → WO 2 15 5 20 6 21 I A pl bh z v y → 2 + (fl pl).length + (1 + y.length) + (dxF (B 2) d i c).length ≤ 512 → (∀ I' A' w5, WO 2 15 5 20 6 21 I' A' pl bh z v (y ++ dxF (B 2) d i c) → kp 2 15 5 20 6 21 I I' A A' → xG tb_W_useDescriptor Q (89, [some (.ref 19), some (.long d), none, some (.int (nI (tlen d))), some (.int (nI (tlen d))), w5], [], HX I' A' B, 0)) → xG tb_W_useDescriptor Q (12, [some (.ref 19), some (.long d), none, some (.int (nI (tlen d))), some (.int (nI i)), w5], [], (HX I A B), 0)
  | 0, i, I, A, y, w5, h, hw, hu, hq => by
    have := tlen_le d
    refine xG.go [1, 5, 12, 21, 30, 42, 59, 68, 80, 89, 90] 60 ?_
    show (((nI (tlen d)) ≤ (nI i) → xG tb_W_useDescriptor Q (89, [some (.ref 19), some (.long d), none, some (.int (nI (tlen d))), some (.int (nI i)), w5], [], (HX I A B), 0)) ∧ (¬ (nI (tlen d)) ≤ (nI i) → xG tb_W_useDescriptor Q (21, [some (.ref 19), some (.long d), none, some (.int (nI (tlen d))), some (.int (nI i)), w5], [.int (nI i), .long d], (HX I A B), 0)))
    obtain rfl : i = tlen d := by omega
    refine br_y (nI_le (by omega) (by omega)) (hq I A w5 ?_ kp_refl)
    rw [show dxF (B 2) d (tlen d) 0 = [] from rfl, List.append_nil]
    exact hw
  | c + 1, i, I, A, y, w5, h, hw, hu, hq => by
    have := tlen_le d
    refine xG.go [1, 5, 12, 21, 30, 42, 59, 68, 80, 89, 90] 60 ?_
    show (((nI (tlen d)) ≤ (nI i) → xG tb_W_useDescriptor Q (89, [some (.ref 19), some (.long d), none, some (.int (nI (tlen d))), some (.int (nI i)), w5], [], (HX I A B), 0)) ∧ (¬ (nI (tlen d)) ≤ (nI i) → xG tb_W_useDescriptor Q (21, [some (.ref 19), some (.long d), none, some (.int (nI (tlen d))), some (.int (nI i)), w5], [.int (nI i), .long d], (HX I A B), 0)))
    refine br_n (nI_ge (by omega) (by omega)) ?_
    refine xG.call (F := xRun tb_T_charAt 3) rfl rfl (p_T_charAt ?_)
    have ed : dxF (B 2) d i (c + 1) = (if cdg (tch d (nI i)) 8 = true then (76 :: tx (B 2 (tch d (nI i) - 48).toNatClampNeg)) ++ [59] else [tch d (nI i)]) ++ dxF (B 2) d (i + 1) c := rfl
    rw [ed, List.length_append] at hu
    rw [ed] at hq
    generalize tch d (nI i) = ch at hu hq ⊢
    refine xG.go [1, 5, 12, 21, 30, 42, 59, 68, 80, 89, 90] 60 ?_
    show xG tb_W_useDescriptor Q (30, [some (.ref 19), some (.long d), none, some (.int (nI (tlen d))), some (.int (nI i)), some (.int ch)], [.int (8 : Int32), .int ch], (HX I A B), 0)
    refine xG.call (F := xRun tb_D_isClassDigit 2) rfl rfl (p_D_isClassDigit (l := 8) ?_)
    refine xG.go [1, 5, 12, 21, 30, 42, 59, 68, 80, 89, 90] 60 ?_
    show (((bI (cdg ch 8)) = 0 → xG tb_W_useDescriptor Q (80, [some (.ref 19), some (.long d), none, some (.int (nI (tlen d))), some (.int (nI i)), some (.int ch)], [.int ch, .ref 14], (HX I A B), 0)) ∧ (¬ (bI (cdg ch 8)) = 0 → xG tb_W_useDescriptor Q (42, [some (.ref 19), some (.long d), none, some (.int (nI (tlen d))), some (.int (nI i)), some (.int ch)], [.int (76 : Int32), .ref 14], (HX I A B), 0)))
    cases hd : cdg ch 8 with
    | false =>
      rw [hd, if_neg (by decide), List.length_singleton] at hu
      rw [hd, if_neg (by decide)] at hq
      refine br_y rfl ?_
      refine xG.callV (F := xRun tb_B_append 2) (a := 14) rfl rfl rfl rfl (p_W_ch_t hw (by omega) (fun I' A' hw' hk => ?_))
      refine xG.go [1, 5, 12, 21, 30, 42, 59, 68, 80, 90] 20 ?_
      show xG tb_W_useDescriptor Q (12, [some (.ref 19), some (.long d), none, some (.int (nI (tlen d))), some (.int (nI i + 1)), some (.int ch)], [], HX I' A' B, 0)
      rw [nI_1]
      refine p_W_useDesc_mt c (i + 1) I' A' _ _ (by omega) hw' (by rw [List.length_append, List.length_singleton]; omega) (fun I'' A'' w5 hw'' hk' => hq I'' A'' w5 ?_ (kp_trans hk hk'))
      rw [List.append_assoc] at hw''
      exact hw''
    | true =>
      obtain ⟨j, hj, rfl⟩ := cdg_ix (by omega) hd
      have ej : nI (48 + j) - 48 = nI j := by
        rw [← nI_add, Int32.add_comm]
        exact Int32.add_sub_cancel _ _
      rw [hd, if_pos rfl, ej, nI_clamp (by omega), List.length_append, List.length_cons, tx_len, List.length_singleton] at hu
      rw [hd, if_pos rfl, ej, nI_clamp (by omega)] at hq
      refine br_n (by decide) ?_
      refine xG.callV (F := xRun tb_B_append 2) (a := 14) rfl rfl rfl rfl (p_W_ch_t hw (by omega) (fun I1 A1 hw1 hk1 => ?_))
      refine xG.go [1, 5, 12, 21, 30, 42, 59, 68, 80, 89, 90] 60 ?_
      show (vp_in ((nI (48 + j)) - (48 : Int32)) 8 ∧ xG tb_W_useDescriptor Q (59, [some (.ref 19), some (.long d), none, some (.int (nI (tlen d))), some (.int (nI i)), some (.int (nI (48 + j)))], [.long ((B 2) ((nI (48 + j)) - (48 : Int32)).toNatClampNeg), .ref 19], (HX I1 A1 B), 0))
      rw [ej, nI_clamp (by omega)]
      refine ⟨vp_in_nI hj (by omega), ?_⟩
      refine xG.callV (F := xRun tb_W_appendText 5) (a := 19) rfl rfl rfl rfl (p_W_appendText_t hw1 (by rw [List.length_append, List.length_singleton]; omega) (fun I2 A2 hw2 hk2 => ?_))
      refine xG.go [1, 5, 12, 21, 30, 42, 59, 68, 80, 89, 90] 60 ?_
      show xG tb_W_useDescriptor Q (68, [some (.ref 19), some (.long d), none, some (.int (nI (tlen d))), some (.int (nI i)), some (.int (nI (48 + j)))], [.int (59 : Int32), .ref 14], (HX I2 A2 B), 0)
      refine xG.callV (F := xRun tb_B_append 2) (a := 14) rfl rfl rfl rfl (p_W_ch_t hw2 (by rw [List.length_append, List.length_append, List.length_singleton, tx_len]; omega) (fun I3 A3 hw3 hk3 => ?_))
      refine xG.go [1, 5, 12, 21, 30, 42, 59, 68, 80, 90] 20 ?_
      show xG tb_W_useDescriptor Q (12, [some (.ref 19), some (.long d), none, some (.int (nI (tlen d))), some (.int (nI i + 1)), some (.int (nI (48 + j)))], [], HX I3 A3 B, 0)
      rw [nI_1]
      have ey : y ++ [76] ++ tx (B 2 j) ++ [59] = y ++ ((76 :: tx (B 2 j)) ++ [59]) := by
        simp only [List.append_assoc, List.cons_append, List.nil_append]
      rw [ey] at hw3
      refine p_W_useDesc_mt c (i + 1) I3 A3 _ _ (by omega) hw3 (by rw [List.length_append, List.length_append, List.length_cons, tx_len, List.length_singleton]; omega) (fun I'' A'' w5 hw'' hk' => hq I'' A'' w5 ?_ (kp_trans hk1 (kp_trans hk2 (kp_trans hk3 hk'))))
      rw [List.append_assoc] at hw''
      exact hw''
theorem p_W_useDescriptor_t {I : Nat → Int32} {A : Nat → Nat → Int32} {B : Nat → Nat → Int64} {Q : xQ} {pl : List (List Int32)} {bh : List Int32} {z : Int32} {u : Nat} {d : Int64} (hw : WS 2 15 5 20 6 21 I A pl bh z u) (hx : (dx (B 2) d).length ≤ 62) (hu : u + 63 ≤ 512) (hl : pl.length < 14) (hb : bh.length < 22) (hq : ∀ I' A', WS 2 15 5 20 6 21 I' A' (addP pl (dx (B 2) d)) (bh ++ [nI (kn (dx (B 2) d) pl + 1)]) z (u + 63) → kp 2 15 5 20 6 21 I I' A A' → Q (.inl none) (HX I' A' B) 0) : xRun tb_W_useDescriptor 6 [.ref 19, .long d] (HX I A B) Q := by
  have h8 := tlen_le d
  have hfl := hw.1.2.1
  refine ⟨Nat.le_of_ble_eq_true rfl, ?_⟩
  refine xG.go [1, 5, 12, 21, 30, 42, 59, 68, 80, 90] 60 ?_
  show xG tb_W_useDescriptor Q (1, [some (.ref 19), some (.long d), none, none, none, none], [.ref 19], (HX I A B), 0)
  refine xG.callV (F := xRun tb_W_openText 1) (a := 19) rfl rfl rfl rfl (p_W_openText_t hw hl (by omega) (fun I1 A1 hw1 hk1 => ?_))
  refine xG.go [1, 5, 12, 21, 30, 42, 59, 68, 80, 90] 60 ?_
  show xG tb_W_useDescriptor Q (5, [some (.ref 19), some (.long d), none, none, none, none], [.long d], (HX I1 A1 B), 0)
  refine xG.call (F := xRun tb_T_length 3) rfl rfl (p_T_length ?_)
  refine xG.go [1, 5, 12, 21, 30, 42, 59, 68, 80, 90] 20 ?_
  show xG tb_W_useDescriptor Q (12, [some (.ref 19), some (.long d), none, some (.int (nI (tlen d))), some (.int (nI 0)), none], [], HX I1 A1 B, 0)
  have hxx : (dxF (B 2) d 0 (tlen d)).length ≤ 62 := hx
  refine p_W_useDesc_mt (tlen d) 0 I1 A1 [] none (Nat.zero_add _) hw1 (by rw [List.length_nil]; omega) (fun I2 A2 w5 hw2 hk2 => ?_)
  rw [List.nil_append] at hw2
  refine xG.go [1, 5, 12, 21, 30, 42, 59, 68, 80, 90] 60 ?_
  show xG tb_W_useDescriptor Q (90, [some (.ref 19), some (.long d), none, some (.int (nI (tlen d))), some (.int (nI (tlen d))), w5], [.ref 19], (HX I2 A2 B), 0)
  refine xG.callV (F := xRun tb_W_closeText 4) (a := 19) rfl rfl rfl rfl (p_W_closeText_t (u := u + 63) hw2 (by omega) hu hl hb (fun I3 A3 hw3 hk3 => ?_))
  refine xG.go [1, 5, 12, 21, 30, 42, 59, 68, 80, 90] 20 ?_
  exact hq I3 A3 hw3 (kp_trans hk1 (kp_trans hk2 hk3))
theorem p_B_cut0_t {I : Nat → Int32} {A : Nat → Nat → Int32} {B : Nat → Nat → Int64} {Q : xQ} (hq : Q (.inl none) (HX (va_up I 2 (nI 0)) A B) 0) : xRun tb_B_cutTo 2 [.ref 14, .int 0] (HX I A B) Q := by
  refine ⟨Nat.le_of_ble_eq_true rfl, ?_⟩
  refine xG.go [] 60 ?_
  show Q (.inl none) (HX (va_up I 2 (if (0 : Int32) < (if (I 2) < (0 : Int32) then (I 2) else (0 : Int32)) then (if (I 2) < (0 : Int32) then (I 2) else (0 : Int32)) else (0 : Int32))) A B) 0
  have e : (if (0 : Int32) < (if I 2 < (0 : Int32) then I 2 else (0 : Int32)) then (if I 2 < (0 : Int32) then I 2 else (0 : Int32)) else (0 : Int32)) = nI 0 := by
    by_cases w : I 2 < 0
    · rw [if_pos w, if_neg (fun q => Int32.lt_irrefl (Int32.lt_trans q w))]; rfl
    · rw [if_neg w, if_neg Int32.lt_irrefl]; rfl
  rw [e]
  exact hq
theorem p_W_begin_t {I : Nat → Int32} {A : Nat → Nat → Int32} {B : Nat → Nat → Int64} {Q : xQ} (hq : ∀ I' A', WS 2 15 5 20 6 21 I' A' [] [] 0 2 → kp 2 15 5 20 6 21 I I' A A' → Q (.inl none) (HX I' A' B) 0) : xRun tb_W_begin 1 [.ref 19] (HX I A B) Q := by
  refine ⟨Nat.le_of_ble_eq_true rfl, ?_⟩
  refine xG.go [5, 15, 23] 60 ?_
  show xG tb_W_begin Q (5, [some (.ref 19)], [.int (0 : Int32), .ref 14], (HX I A B), 0)
  refine xG.callV (F := xRun tb_B_cutTo 2) (a := 14) rfl rfl rfl rfl (p_B_cut0_t ?_)
  refine xG.go [5, 15, 23] 60 ?_
  show xG tb_W_begin Q (15, [some (.ref 19)], [.int (202 : Int32), .ref 14], (HX (va_up I 2 (nI 0)) A B), 0)
  refine xG.callV (F := xRun tb_B_append 2) (a := 14) rfl rfl rfl rfl (p_B_append_t (n := 0) rfl (by omega) ?_)
  rw [up_up]
  refine xG.go [5, 15, 23] 60 ?_
  show xG tb_W_begin Q (23, [some (.ref 19)], [.int (0 : Int32), .ref 14], (HX (va_up I 2 (nI (0 + 1))) (va_up A 15 (upd (A 15) 0 202)) B), 0)
  refine xG.callV (F := xRun tb_B_append 2) (a := 14) rfl rfl rfl rfl (p_B_append_t (n := 1) rfl (by omega) ?_)
  refine xG.go [5, 15, 23] 20 ?_
  refine hq (va_up (va_up (va_up (va_up I 2 (nI (0 + 1))) 2 (nI (1 + 1))) 6 0) 5 0) (va_up (va_up A 15 (upd (A 15) 0 202)) 15 (upd (upd (A 15) 0 202) 1 0)) ⟨⟨rfl, Nat.le_refl 2, ?_⟩, ⟨rfl, rfl⟩, rfl, fun i hi => by rw [List.length_nil] at hi; omega⟩ ⟨fun j hj => ?_, fun j hj => ?_⟩
  · show upd (upd (A 15) 0 202) 1 0 0 :: upd (upd (A 15) 0 202) 1 0 1 :: [] = [202, 0]
    rw [pk_us, pk_un (by omega), pk_us]
  · rw [up_n (fun q => hj (by omega)), up_n (fun q => hj (by omega)), up_n (fun q => hj (by omega)), up_n (fun q => hj (by omega))]
  · rw [up_n (fun q => hj (by omega)), up_n (fun q => hj (by omega))]
theorem p_W_end_lt {B : Nat → Nat → Int64} {Q : xQ} {bh R : List Int32} : ∀ (c i : Nat) (I : Nat → Int32) (A : Nat → Nat → Int32), i + c = bh.length → bh.length ≤ 22 → R.length + bh.length ≤ 512 → I 5 = nI bh.length → rd (A 20) 0 bh.length = bh → I 2 = nI (R.length + i) → rd (A 15) 0 (R.length + i) = R ++ rd (A 20) 0 i → (∀ I' A', I' 2 = nI (R ++ bh).length → rd (A' 15) 0 (R ++ bh).length = R ++ bh → kp 2 15 5 20 6 21 I I' A A' → Q (.inl none) (HX I' A' B) 0) → xG tb_W_end Q (14, [some (.ref 19), some (.int (nI i))], [], (HX I A B), 0)
  | 0, i, I, A, h, h22, hR, hk, hb, hl, hr, hq => by
    refine xG.go [9, 14, 32] 60 ?_
    show (((I 5) ≤ (nI i) → Q (.inl none) (HX I A B) 0) ∧ (¬ (I 5) ≤ (nI i) → (vp_in (nI i) 22 ∧ xG tb_W_end Q (32, [some (.ref 19), some (.int (nI i))], [.int ((A 20) (nI i).toNatClampNeg), .ref 14], (HX I A B), 0))))
    rw [hk]
    obtain rfl : i = bh.length := by omega
    refine br_y (nI_le (by omega) (by omega)) (hq I A ?_ ?_ kp_refl)
    · rw [hl, List.length_append]
    · rw [List.length_append, hr, hb]
  | c + 1, i, I, A, h, h22, hR, hk, hb, hl, hr, hq => by
    refine xG.go [9, 14, 32] 60 ?_
    show (((I 5) ≤ (nI i) → Q (.inl none) (HX I A B) 0) ∧ (¬ (I 5) ≤ (nI i) → (vp_in (nI i) 22 ∧ xG tb_W_end Q (32, [some (.ref 19), some (.int (nI i))], [.int ((A 20) (nI i).toNatClampNeg), .ref 14], (HX I A B), 0))))
    rw [hk, nI_clamp (by omega)]
    refine br_n (nI_ge (by omega) (by omega)) ⟨vp_in_nI (by omega) (by omega), ?_⟩
    refine xG.callV (F := xRun tb_B_append 2) (a := 14) rfl rfl rfl rfl (p_B_append_t hl (by omega) ?_)
    refine xG.go [9, 14, 32] 20 ?_
    show xG tb_W_end Q (14, [some (.ref 19), some (.int (nI i + 1))], [], HX (va_up I 2 (nI (R.length + i + 1))) (va_up A 15 (upd (A 15) (R.length + i) (A 20 i))) B, 0)
    rw [nI_1]
    refine p_W_end_lt c (i + 1) _ _ (by omega) h22 hR hk hb rfl ?_ (fun I' A' q1 q2 q3 => hq I' A' q1 q2 (kp_trans ⟨fun j hj => up_n (fun q => hj (by omega)), fun j hj => up_n (fun q => hj (by omega))⟩ q3))
    show rd (upd (A 15) (R.length + i) (A 20 i)) 0 (R.length + i + 1) = R ++ rd (A 20) 0 (i + 1)
    rw [rd_snoc, hr, rd_add, List.append_assoc, rd_1, Nat.zero_add]
theorem p_W_end_t {I : Nat → Int32} {A : Nat → Nat → Int32} {B : Nat → Nat → Int64} {Q : xQ} {s : fst_} {z : Int32} {u : Nat} (hw : WS 2 15 5 20 6 21 I A s.1 s.2 z u) (hu : u + 22 ≤ 512) (h22 : s.2.length ≤ 22) (hq : ∀ I' A', I' 2 = nI (fileL s).length → rd (A' 15) 0 (fileL s).length = fileL s → kp 2 15 5 20 6 21 I I' A A' → Q (.inl none) (HX I' A' B) 0) : xRun tb_W_end 2 [.ref 19] (HX I A B) Q := by
  obtain ⟨⟨h1, h1', h1''⟩, ⟨h2, h3⟩, h4, h5⟩ := hw
  refine ⟨Nat.le_of_ble_eq_true rfl, ?_⟩
  refine xG.go [9, 14, 32] 60 ?_
  show xG tb_W_end Q (9, [some (.ref 19), none], [.int (I 6), .int (1 : Int32), .ref 14], (HX I A B), 0)
  refine xG.callV (F := xRun tb_B_set 3) (a := 14) rfl rfl rfl rfl (p_B_set_t (i := 1) (n := 2 + (fl s.1).length) (by omega) h1 (fun _ => ?_) (fun w => ?_))
  rotate_left
  · rw [h1, show (1 : Int32) = nI 1 from rfl, isC_nI (by omega) (by omega), decide_eq_true (by omega)] at w
    cases w
  rw [h4]
  refine xG.go [9, 14, 32] 20 ?_
  show xG tb_W_end Q (14, [some (.ref 19), some (.int (nI 0))], [], HX I (va_up A 15 (upd (A 15) 1 (nI s.1.length))) B, 0)
  have el : (202 :: nI s.1.length :: fl s.1).length = 2 + (fl s.1).length := by rw [List.length_cons, List.length_cons]; omega
  refine p_W_end_lt (bh := s.2) (R := 202 :: nI s.1.length :: fl s.1) s.2.length 0 _ _ (Nat.zero_add _) h22 (by rw [el]; omega) h2 h3 (by rw [el]; exact h1) ?_ (fun I' A' q1 q2 q3 => hq I' A' q1 q2 (kp_trans ⟨fun _ _ => rfl, fun j hj => up_n (fun q => hj (by omega))⟩ q3))
  rw [el, Nat.add_zero, rd_add] at *
  obtain ⟨k1, k2⟩ := List.append_inj h1'' (by rw [rd_len]; rfl : (rd (A 15) 0 2).length = [202, z].length)
  show rd (upd (A 15) 1 (nI s.1.length)) 0 2 ++ rd (upd (A 15) 1 (nI s.1.length)) (0 + 2) (fl s.1).length = (202 :: nI s.1.length :: fl s.1) ++ []
  rw [rd_out (o := 0 + 2) (Or.inl (by omega)), k2, List.append_nil]
  show upd (A 15) 1 (nI s.1.length) 0 :: upd (A 15) 1 (nI s.1.length) 1 :: _ = _
  rw [pk_us, pk_un (by omega), (List.cons.inj k1).1]
  rfl
theorem p_W_mem_lt {B : Nat → Nat → Int64} {Q : xQ} {A : Nat → Nat → Int32} {c m : Nat} {sp : Int32} {z : Int32} (hf : fOk A B c m) : ∀ (k j : Nat) (I' : Nat → Int32) (A' : Nat → Nat → Int32) (s : fst_) (u : Nat) (w4 : Option Value), j + k = m → WS 2 15 5 20 6 21 I' A' s.1 s.2 z u → (∀ i, ¬ (i = 15 ∨ i = 20 ∨ i = 21) → A' i = A i) → u + 72 * k + 22 ≤ 512 → s.1.length + 2 * k ≤ 14 → s.2.length + 3 * k ≤ 22 → (∀ I'' A'', I'' 2 = nI (fileL (clM A B c k j s)).length → rd (A'' 15) 0 (fileL (clM A B c k j s)).length = fileL (clM A B c k j s) → kp 2 15 5 20 6 21 I' I'' A' A'' → Q (.inl none) (HX I'' A'' B) 0) → xG tb_W_compose Q (89, [some (.ref 19), some (.int (nI c)), some (.int sp), some (.int (nI j)), w4], [], HX I' A' B, 0)
  | 0, j, I', A', s, u, w4, h, hw, hA, hu, h1, h2, hq => by
    obtain ⟨f1, f2, f3, f4, f5⟩ := hf
    refine xG.go [1, 14, 34, 50, 71, 84, 89, 104, 120, 134, 156, 166] 60 ?_
    show (vp_in (nI c) 8 ∧ ((((A' 6) (nI c).toNatClampNeg) ≤ (nI j) → xG tb_W_compose Q (166, [some (.ref 19), some (.int (nI c)), some (.int sp), some (.int (nI j)), w4], [.ref 19], (HX I' A' B), 0)) ∧ (¬ ((A' 6) (nI c).toNatClampNeg) ≤ (nI j) → xG tb_W_compose Q (104, [some (.ref 19), some (.int (nI c)), some (.int sp), some (.int (nI j)), w4], [.int (nI j), .int (nI c)], (HX I' A' B), 0))))
    rw [nI_clamp (by omega), hA 6 (by omega), f4]
    refine ⟨vp_in_nI f1 (by omega), br_y (nI_le (by omega) (by omega)) ?_⟩
    refine xG.callV (F := xRun tb_W_end 2) (a := 19) rfl rfl rfl rfl (p_W_end_t hw (by omega) (by omega) (fun I'' A'' q1 q2 q3 => ?_))
    refine xG.go [1, 14, 34, 50, 71, 84, 104, 120, 134, 156, 166] 20 ?_
    exact hq I'' A'' q1 q2 q3
  | k + 1, j, I', A', s, u, w4, h, hw, hA, hu, h1, h2, hq => by
    have hf' := hf
    obtain ⟨f1, f2, f3, f4, f5⟩ := hf'
    refine xG.go [1, 14, 34, 50, 71, 84, 89, 104, 120, 134, 156, 166] 60 ?_
    show (vp_in (nI c) 8 ∧ ((((A' 6) (nI c).toNatClampNeg) ≤ (nI j) → xG tb_W_compose Q (166, [some (.ref 19), some (.int (nI c)), some (.int sp), some (.int (nI j)), w4], [.ref 19], (HX I' A' B), 0)) ∧ (¬ ((A' 6) (nI c).toNatClampNeg) ≤ (nI j) → xG tb_W_compose Q (104, [some (.ref 19), some (.int (nI c)), some (.int sp), some (.int (nI j)), w4], [.int (nI j), .int (nI c)], (HX I' A' B), 0))))
    rw [nI_clamp (by omega), hA 6 (by omega), f4]
    refine ⟨vp_in_nI f1 (by omega), br_n (nI_ge (by omega) (by omega)) ?_⟩
    refine xG.call (F := xRun tb_S_number 2) rfl rfl (p_S_number ?_)
    rw [nI_num]
    refine xG.go [1, 14, 34, 50, 71, 84, 89, 104, 120, 134, 156, 166] 60 ?_
    show (vp_in (nI (8 * c + j)) 64 ∧ xG tb_W_compose Q (120, [some (.ref 19), some (.int (nI c)), some (.int sp), some (.int (nI j)), some (.int (nI (8 * c + j)))], [.long ((B 8) (nI (8 * c + j)).toNatClampNeg), .ref 19], (HX I' A' B), 0))
    rw [nI_clamp (by omega)]
    have hin : vp_in (nI (8 * c + j)) 64 := vp_in_nI (by omega) (by omega)
    refine ⟨hin, ?_⟩
    refine xG.callV (F := xRun tb_W_useText 3) (a := 19) rfl rfl rfl rfl (p_W_useText_t hw (by omega) (by omega) (by omega) (fun I1 A1 hw1 hk1 => ?_))
    refine xG.go [1, 14, 34, 50, 71, 84, 89, 104, 120, 134, 156, 166] 60 ?_
    show (vp_in (nI (8 * c + j)) 64 ∧ xG tb_W_compose Q (134, [some (.ref 19), some (.int (nI c)), some (.int sp), some (.int (nI j)), some (.int (nI (8 * c + j)))], [.long ((B 10) (nI (8 * c + j)).toNatClampNeg), .ref 19], (HX I1 A1 B), 0))
    rw [nI_clamp (by omega)]
    refine ⟨hin, ?_⟩
    have l1 := opT_len s (tx (B 8 (8 * c + j)))
    refine xG.callV (F := xRun tb_W_useDescriptor 6) (a := 19) rfl rfl rfl rfl (p_W_useDescriptor_t (pl := (opT s (tx (B 8 (8 * c + j)))).1) (bh := (opT s (tx (B 8 (8 * c + j)))).2) hw1 (f5 j (by omega)) (by omega) (by omega) (by omega) (fun I2 A2 hw2 hk2 => ?_))
    refine xG.go [1, 14, 34, 50, 71, 84, 89, 104, 120, 134, 156, 166] 60 ?_
    show (vp_in (nI (8 * c + j)) 64 ∧ ((((A2 11) (nI (8 * c + j)).toNatClampNeg) = 0 → xG tb_W_compose Q (156, [some (.ref 19), some (.int (nI c)), some (.int sp), some (.int (nI j)), some (.int (nI (8 * c + j)))], [.int (0 : Int32), .ref 19], (HX I2 A2 B), 0)) ∧ (¬ ((A2 11) (nI (8 * c + j)).toNatClampNeg) = 0 → xG tb_W_compose Q (156, [some (.ref 19), some (.int (nI c)), some (.int sp), some (.int (nI j)), some (.int (nI (8 * c + j)))], [.int (1 : Int32), .ref 19], (HX I2 A2 B), 0))))
    rw [nI_clamp (by omega)]
    have eA2 : ∀ i, ¬ (i = 15 ∨ i = 20 ∨ i = 21) → A2 i = A i := fun i hi => (hk2.2 i hi).trans ((hk1.2 i hi).trans (hA i hi))
    have l2 := opT_len (opT s (tx (B 8 (8 * c + j)))) (dx (B 2) (B 10 (8 * c + j)))
    have key : ∀ x, x = n01 (A 11 (8 * c + j)) → xG tb_W_compose Q (156, [some (.ref 19), some (.int (nI c)), some (.int sp), some (.int (nI j)), some (.int (nI (8 * c + j)))], [.int x, .ref 19], HX I2 A2 B, 0) := by
      rintro x rfl
      refine xG.callV (F := xRun tb_W_useNumber 2) (a := 19) rfl rfl rfl rfl (p_W_useNumber_t (pl := (opT (opT s (tx (B 8 (8 * c + j)))) (dx (B 2) (B 10 (8 * c + j)))).1) (bh := (opT (opT s (tx (B 8 (8 * c + j)))) (dx (B 2) (B 10 (8 * c + j)))).2) hw2 (by omega) (fun I3 A3 hw3 hk3 => ?_))
      refine xG.go [1, 14, 34, 50, 71, 84, 89, 104, 120, 134, 156, 166] 20 ?_
      show xG tb_W_compose Q (89, [some (.ref 19), some (.int (nI c)), some (.int sp), some (.int (nI j + 1)), some (.int (nI (8 * c + j)))], [], HX I3 A3 B, 0)
      rw [nI_1]
      have l3 := opN_len (opT (opT s (tx (B 8 (8 * c + j)))) (dx (B 2) (B 10 (8 * c + j)))) (n01 (A 11 (8 * c + j)))
      refine p_W_mem_lt hf k (j + 1) I3 A3 (opN (opT (opT s (tx (B 8 (8 * c + j)))) (dx (B 2) (B 10 (8 * c + j)))) (n01 (A 11 (8 * c + j)))) (u + 9 + 63) _ (by omega) hw3 (fun i hi => (hk3.2 i hi).trans (eA2 i hi)) (by omega) (by omega) (by omega) (fun I4 A4 q1 q2 q3 => hq I4 A4 q1 q2 (kp_trans hk1 (kp_trans hk2 (kp_trans hk3 q3))))
    rw [eA2 11 (by omega)]
    exact ⟨hin, fun q => key 0 (if_pos q).symm, fun q => key 1 (if_neg q).symm⟩
theorem p_W_compose_t {I : Nat → Int32} {A : Nat → Nat → Int32} {B : Nat → Nat → Int64} {Q : xQ} {c m : Nat} (hf : fOk A B c m) (hq : ∀ I' A', I' 2 = nI (fileL (clF A B c m)).length → rd (A' 15) 0 (fileL (clF A B c m)).length = fileL (clF A B c m) → kp 2 15 5 20 6 21 I I' A A' → Q (.inl none) (HX I' A' B) 0) : xRun tb_W_compose 5 [.ref 19, .int (nI c)] (HX I A B) Q := by
  have hf' := hf
  obtain ⟨f1, f2, f3, f4, f5⟩ := hf'
  have hin : vp_in (nI c) 8 := vp_in_nI f1 (by omega)
  refine ⟨Nat.le_of_ble_eq_true rfl, ?_⟩
  refine xG.go [1, 14, 34, 50, 71, 84, 89, 104, 120, 134, 156, 166] 60 ?_
  show xG tb_W_compose Q (1, [some (.ref 19), some (.int (nI c)), none, none, none], [.ref 19], (HX I A B), 0)
  refine xG.callV (F := xRun tb_W_begin 1) (a := 19) rfl rfl rfl rfl (p_W_begin_t (fun I1 A1 hw1 hk1 => ?_))
  refine xG.go [1, 14, 34, 50, 71, 84, 89, 104, 120, 134, 156, 166] 60 ?_
  show (vp_in (nI c) 8 ∧ xG tb_W_compose Q (14, [some (.ref 19), some (.int (nI c)), none, none, none], [.long ((B 2) (nI c).toNatClampNeg), .ref 19], (HX I1 A1 B), 0))
  rw [nI_clamp (by omega)]
  refine ⟨hin, ?_⟩
  refine xG.callV (F := xRun tb_W_useText 3) (a := 19) rfl rfl rfl rfl (p_W_useText_t hw1 (by omega) (by decide) (by decide) (fun I2 A2 hw2 hk2 => ?_))
  have hk12 := kp_trans hk1 hk2
  have l1 := opT_len ([], []) (tx (B 2 c))
  rw [show ([] : List (List Int32)).length = 0 from rfl, show ([] : List Int32).length = 0 from rfl] at l1
  refine xG.go [1, 14, 34, 50, 53, 71, 84, 89, 104, 120, 134, 156, 166] 60 ?_
  show (vp_in (nI c) 8 ∧ ((((A2 4) (nI c).toNatClampNeg) = (-1 : Int32) → xG tb_W_compose Q (34, [some (.ref 19), some (.int (nI c)), some (.int ((A2 4) (nI c).toNatClampNeg)), none, none], [.int (0 : Int32), .ref 19], (HX I2 A2 B), 0)) ∧ (¬ ((A2 4) (nI c).toNatClampNeg) = (-1 : Int32) → (vp_in ((A2 4) (nI c).toNatClampNeg) 8 ∧ xG tb_W_compose Q (50, [some (.ref 19), some (.int (nI c)), some (.int ((A2 4) (nI c).toNatClampNeg)), none, none], [.long ((B 2) ((A2 4) (nI c).toNatClampNeg).toNatClampNeg), .ref 19], (HX I2 A2 B), 0)))))
  rw [nI_clamp (by omega), hk12.2 4 (by omega)]
  have key : ∀ I3 A3 u, WS 2 15 5 20 6 21 I3 A3 (cl1 A B c).1 (cl1 A B c).2 0 u → u ≤ 20 → kp 2 15 5 20 6 21 I I3 A A3 → xG tb_W_compose Q (53, [some (.ref 19), some (.int (nI c)), some (.int (A 4 c)), none, none], [], HX I3 A3 B, 0) := fun I3 A3 u hw3 hu hk3 => by
    have l2 : (cl1 A B c).1.length ≤ 2 ∧ (cl1 A B c).2.length = 2 := by
      unfold cl1
      split
      · have := opN_len (opT ([], []) (tx (B 2 c))) 0
        omega
      · have := opT_len (opT ([], []) (tx (B 2 c))) (tx (B 2 (A 4 c).toNatClampNeg))
        omega
    refine xG.go [1, 14, 34, 50, 71, 84, 89, 104, 120, 134, 156, 166] 60 ?_
    show (vp_in (nI c) 8 ∧ ((((A3 5) (nI c).toNatClampNeg) = 0 → xG tb_W_compose Q (71, [some (.ref 19), some (.int (nI c)), some (.int (A 4 c)), none, none], [.int (0 : Int32), .ref 19], (HX I3 A3 B), 0)) ∧ (¬ ((A3 5) (nI c).toNatClampNeg) = 0 → xG tb_W_compose Q (71, [some (.ref 19), some (.int (nI c)), some (.int (A 4 c)), none, none], [.int (1 : Int32), .ref 19], (HX I3 A3 B), 0))))
    rw [nI_clamp (by omega), hk3.2 5 (by omega)]
    have key2 : ∀ x, x = n01 (A 5 c) → xG tb_W_compose Q (71, [some (.ref 19), some (.int (nI c)), some (.int (A 4 c)), none, none], [.int x, .ref 19], HX I3 A3 B, 0) := by
      rintro x rfl
      refine xG.callV (F := xRun tb_W_useNumber 2) (a := 19) rfl rfl rfl rfl (p_W_useNumber_t hw3 (by omega) (fun I4 A4 hw4 hk4 => ?_))
      have l3 := opN_len (cl1 A B c) (n01 (A 5 c))
      refine xG.go [1, 14, 34, 50, 71, 84, 89, 104, 120, 134, 156, 166] 60 ?_
      show (vp_in (nI c) 8 ∧ xG tb_W_compose Q (84, [some (.ref 19), some (.int (nI c)), some (.int (A 4 c)), none, none], [.int ((A4 6) (nI c).toNatClampNeg), .ref 19], (HX I4 A4 B), 0))
      rw [nI_clamp (by omega), hk4.2 6 (by omega), hk3.2 6 (by omega)]
      refine ⟨hin, ?_⟩
      refine xG.callV (F := xRun tb_W_useNumber 2) (a := 19) rfl rfl rfl rfl (p_W_useNumber_t (pl := (opN (cl1 A B c) (n01 (A 5 c))).1) (bh := (opN (cl1 A B c) (n01 (A 5 c))).2) hw4 (by omega) (fun I5 A5 hw5 hk5 => ?_))
      have l4 := opN_len (opN (cl1 A B c) (n01 (A 5 c))) (A 6 c)
      refine xG.go [1, 14, 34, 50, 71, 84, 89, 104, 120, 134, 156, 166] 20 ?_
      show xG tb_W_compose Q (89, [some (.ref 19), some (.int (nI c)), some (.int (A 4 c)), some (.int (nI 0)), none], [], HX I5 A5 B, 0)
      refine p_W_mem_lt hf m 0 I5 A5 (cl0 A B c) u none (Nat.zero_add m) hw5 (fun i hi => (hk5.2 i hi).trans ((hk4.2 i hi).trans (hk3.2 i hi))) (by omega) ?_ ?_ (fun I6 A6 q1 q2 q3 => hq I6 A6 q1 q2 (kp_trans hk3 (kp_trans hk4 (kp_trans hk5 q3))))
      · show (opN (opN (cl1 A B c) (n01 (A 5 c))) (A 6 c)).1.length + 2 * m ≤ 14
        omega
      · show (opN (opN (cl1 A B c) (n01 (A 5 c))) (A 6 c)).2.length + 3 * m ≤ 22
        omega
    exact ⟨hin, fun q => key2 0 (if_pos q).symm, fun q => key2 1 (if_neg q).symm⟩
  refine ⟨hin, fun w => ?_, fun w => ?_⟩
  · refine xG.callV (F := xRun tb_W_useNumber 2) (a := 19) rfl rfl rfl rfl (p_W_useNumber_t (x := 0) (pl := (opT ([], []) (tx (B 2 c))).1) (bh := (opT ([], []) (tx (B 2 c))).2) hw2 (by omega) (fun I3 A3 hw3 hk3 => ?_))
    refine xG.go [1, 14, 34, 50, 53, 71, 84, 89, 104, 120, 134, 156, 166] 20 ?_
    show xG tb_W_compose Q (53, [some (.ref 19), some (.int (nI c)), some (.int (A 4 c)), none, none], [], HX I3 A3 B, 0)
    have ec : cl1 A B c = opN (opT ([], []) (tx (B 2 c))) 0 := if_pos w
    exact key I3 A3 (2 + 9) (by rw [ec]; exact hw3) (by omega) (kp_trans hk12 hk3)
  · obtain ⟨p, hp, ep⟩ : ∃ p, p < 8 ∧ A 4 c = nI p := f2.elim (fun q => absurd q w) id
    have ec : cl1 A B c = opT (opT ([], []) (tx (B 2 c))) (tx (B 2 (A 4 c).toNatClampNeg)) := if_neg w
    rw [ep, nI_clamp (by omega)] at ec ⊢
    refine ⟨vp_in_nI hp (by omega), ?_⟩
    refine xG.callV (F := xRun tb_W_useText 3) (a := 19) rfl rfl rfl rfl (p_W_useText_t (pl := (opT ([], []) (tx (B 2 c))).1) (bh := (opT ([], []) (tx (B 2 c))).2) hw2 (by omega) (by omega) (by omega) (fun I3 A3 hw3 hk3 => ?_))
    rw [ep] at key
    exact key I3 A3 (2 + 9 + 9) (by rw [ec]; exact hw3) (by omega) (kp_trans hk12 hk3)
