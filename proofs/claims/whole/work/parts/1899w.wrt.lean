theorem p_B_append_t {I : Nat → Int32} {A : Nat → Nat → Int32} {B : Nat → Nat → Int64} {Q : xQ} {n : Nat} {x : Int32} (e : I 2 = nI n) (hn : n < 512) (hq : Q (.inl none) (HX (va_up I 2 (nI (n + 1))) (va_up A 15 (upd (A 15) n x)) B) 0) : xRun tb_B_append 2 [.ref 14, .int x] (HX I A B) Q := by
  refine ⟨Nat.le_of_ble_eq_true rfl, ?_⟩
  refine xG.go [] 60 ?_
  show (((512 : Int32) ≤ (I 2) → Q (.inl none) (HX I A B) 0) ∧ (¬ (512 : Int32) ≤ (I 2) → (vp_in (I 2) 512 ∧ Q (.inl none) (HX (va_up I 2 ((I 2) + (1 : Int32))) (va_up A 15 (upd (A 15) (I 2).toNatClampNeg x)) B) 0)))
  rw [e, nI_clamp (by omega), nI_1]
  exact br_n (nI_ge (b := 512) hn (by omega)) ⟨vp_in_nI hn (by omega), hq⟩
theorem p_B_cutTo_t {I : Nat → Int32} {A : Nat → Nat → Int32} {B : Nat → Nat → Int64} {Q : xQ} {n m : Nat} (e : I 2 = nI n) (hn : n ≤ 512) (hm : m ≤ n) (hq : Q (.inl none) (HX (va_up I 2 (nI m)) A B) 0) : xRun tb_B_cutTo 2 [.ref 14, .int (nI m)] (HX I A B) Q := by
  refine ⟨Nat.le_of_ble_eq_true rfl, ?_⟩
  refine xG.go [] 60 ?_
  show Q (.inl none) (HX (va_up I 2 (if (0 : Int32) < (if (I 2) < (nI m) then (I 2) else (nI m)) then (if (I 2) < (nI m) then (I 2) else (nI m)) else (0 : Int32))) A B) 0
  rw [e]
  have e1 : (if nI n < nI m then nI n else nI m) = nI m := by
    rw [if_neg (nI_nlt hm (by omega))]
  rw [e1]
  have e2 : (if (0 : Int32) < nI m then nI m else (0 : Int32)) = nI m := by
    by_cases w : (0 : Int32) < nI m
    · rw [if_pos w]
    · rw [if_neg w]
      rcases Nat.eq_zero_or_pos m with q | q
      · rw [q]; rfl
      · exact absurd (nI_lt (a := 0) q (by omega)) w
  rw [e2]
  exact hq
theorem p_B_size_t {I : Nat → Int32} {A : Nat → Nat → Int32} {B : Nat → Nat → Int64} {Q : xQ} (hq : Q (.inl (some (.int (I 2)))) (HX I A B) 0) : xRun tb_B_size 1 [.ref 14] (HX I A B) Q := by
  refine ⟨Nat.le_of_ble_eq_true rfl, ?_⟩
  refine xG.go [] 60 ?_
  show Q (.inl (some (.int (I 2)))) (HX I A B) 0
  exact hq
theorem p_B_eq_lt {I : Nat → Int32} {A : Nat → Nat → Int32} {B : Nat → Nat → Int64} {Q : xQ} {s q k n : Nat} (hn : n ≤ 512) (e : I 2 = nI n) (hs : s + k ≤ n) (hp : q + k ≤ n) : ∀ (c i : Nat), i + c = k → Q (.inl (some (.int (bI (decide (rd (A 15) (s + i) c = rd (A 15) (q + i) c)))))) (HX I A B) 0 → xG tb_B_hasEqualBytes Q (3, [some (.ref 14), some (.int (nI s)), some (.ref 14), some (.int (nI q)), some (.int (nI k)), some (.int (nI i))], [], (HX I A B), 0)
  | 0, i, h, hq => by
    refine xG.go [3, 15, 23] 60 ?_
    show (((nI k) ≤ (nI i) → (((1 : Int32) = (0 : Int32) ∨ (1 : Int32) = 1) ∧ Q (.inl (some (.int (1 : Int32)))) (HX I A B) 0)) ∧ (¬ (nI k) ≤ (nI i) → xG tb_B_hasEqualBytes Q (15, [some (.ref 14), some (.int (nI s)), some (.ref 14), some (.int (nI q)), some (.int (nI k)), some (.int (nI i))], [.int ((nI s) + (nI i)), .ref 14], (HX I A B), 0)))
    exact br_y (nI_le (by omega) (by omega)) ⟨Or.inr rfl, hq⟩
  | c + 1, i, h, hq => by
    refine xG.go [3, 15, 23] 60 ?_
    show (((nI k) ≤ (nI i) → (((1 : Int32) = (0 : Int32) ∨ (1 : Int32) = 1) ∧ Q (.inl (some (.int (1 : Int32)))) (HX I A B) 0)) ∧ (¬ (nI k) ≤ (nI i) → xG tb_B_hasEqualBytes Q (15, [some (.ref 14), some (.int (nI s)), some (.ref 14), some (.int (nI q)), some (.int (nI k)), some (.int (nI i))], [.int ((nI s) + (nI i)), .ref 14], (HX I A B), 0)))
    rw [nI_add]
    refine br_n (nI_ge (by omega) (by omega)) ?_
    refine xG.callV (F := xRun tb_B_get 2) (a := 14) rfl rfl rfl rfl (p_B_get_t hn e ?_)
    rw [e, isC_nI (by omega) (by omega), decide_eq_true (by omega), if_pos rfl, nI_clamp (by omega)]
    refine xG.go [3, 15, 23] 60 ?_
    show xG tb_B_hasEqualBytes Q (23, [some (.ref 14), some (.int (nI s)), some (.ref 14), some (.int (nI q)), some (.int (nI k)), some (.int (nI i))], [.int ((nI q) + (nI i)), .ref 14, .int (A 15 (s + i))], (HX I A B), 0)
    rw [nI_add]
    refine xG.callV (F := xRun tb_B_get 2) (a := 14) rfl rfl rfl rfl (p_B_get_t hn e ?_)
    rw [e, isC_nI (by omega) (by omega), decide_eq_true (by omega), if_pos rfl, nI_clamp (by omega)]
    refine xG.go [3, 15, 23] 60 ?_
    show (((A 15 (s + i)) = (A 15 (q + i)) → xG tb_B_hasEqualBytes Q (3, [some (.ref 14), some (.int (nI s)), some (.ref 14), some (.int (nI q)), some (.int (nI k)), some (.int ((nI i) + (1 : Int32)))], [], (HX I A B), 0)) ∧ (¬ (A 15 (s + i)) = (A 15 (q + i)) → (((0 : Int32) = (0 : Int32) ∨ (0 : Int32) = 1) ∧ Q (.inl (some (.int (0 : Int32)))) (HX I A B) 0)))
    rw [nI_1]
    have ed : decide (rd (A 15) (s + i) (c + 1) = rd (A 15) (q + i) (c + 1)) = decide (A 15 (s + i) = A 15 (q + i) ∧ rd (A 15) (s + (i + 1)) c = rd (A 15) (q + (i + 1)) c) := by
      refine decide_eq_decide.mpr ?_
      show A 15 (s + i) :: rd (A 15) (s + i + 1) c = A 15 (q + i) :: rd (A 15) (q + i + 1) c ↔ _
      rw [List.cons.injEq, Nat.add_assoc, Nat.add_assoc]
    rw [ed] at hq
    refine ⟨fun z => ?_, fun z => ?_⟩
    · refine p_B_eq_lt hn e hs hp c (i + 1) (by omega) ?_
      have : decide (A 15 (s + i) = A 15 (q + i) ∧ rd (A 15) (s + (i + 1)) c = rd (A 15) (q + (i + 1)) c) = decide (rd (A 15) (s + (i + 1)) c = rd (A 15) (q + (i + 1)) c) := decide_eq_decide.mpr ⟨fun p => p.2, fun p => ⟨z, p⟩⟩
      rw [← this]
      exact hq
    · rw [decide_eq_false (fun p => z p.1)] at hq
      exact ⟨Or.inl rfl, hq⟩
theorem p_B_eq_t {I : Nat → Int32} {A : Nat → Nat → Int32} {B : Nat → Nat → Int64} {Q : xQ} {s q k n : Nat} (hn : n ≤ 512) (e : I 2 = nI n) (hs : s + k ≤ n) (hp : q + k ≤ n) (hq : Q (.inl (some (.int (bI (decide (rd (A 15) s k = rd (A 15) q k)))))) (HX I A B) 0) : xRun tb_B_hasEqualBytes 6 [.ref 14, .int (nI s), .ref 14, .int (nI q), .int (nI k)] (HX I A B) Q := by
  refine ⟨Nat.le_of_ble_eq_true rfl, ?_⟩
  refine xG.go [3, 15, 23] 20 ?_
  show xG tb_B_hasEqualBytes Q (3, [some (.ref 14), some (.int (nI s)), some (.ref 14), some (.int (nI q)), some (.int (nI k)), some (.int (nI 0))], [], (HX I A B), 0)
  exact p_B_eq_lt hn e hs hp k 0 (Nat.zero_add k) hq
theorem p_W_useNumber_t {I : Nat → Int32} {A : Nat → Nat → Int32} {B : Nat → Nat → Int64} {Q : xQ} {pl : List (List Int32)} {bh : List Int32} {z x : Int32} {u : Nat} (hw : WS 2 15 5 20 6 21 I A pl bh z u) (hl : bh.length < 22) (hq : ∀ I' A', WS 2 15 5 20 6 21 I' A' pl (bh ++ [x]) z u → kp 2 15 5 20 6 21 I I' A A' → Q (.inl none) (HX I' A' B) 0) : xRun tb_W_useNumber 2 [.ref 19, .int x] (HX I A B) Q := by
  obtain ⟨h1, ⟨h2, h3⟩, h4⟩ := hw
  refine ⟨Nat.le_of_ble_eq_true rfl, ?_⟩
  refine xG.go [] 60 ?_
  show (((22 : Int32) ≤ (I 5) → Q (.inl none) (HX I A B) 0) ∧ (¬ (22 : Int32) ≤ (I 5) → (vp_in (I 5) 22 ∧ Q (.inl none) (HX (va_up I 5 ((I 5) + (1 : Int32))) (va_up A 20 (upd (A 20) (I 5).toNatClampNeg x)) B) 0)))
  rw [h2, nI_clamp (by omega), nI_1]
  refine br_n (nI_ge (b := 22) hl (by omega)) ⟨vp_in_nI hl (by omega), hq _ _ ⟨h1, ⟨?_, ?_⟩, h4⟩ ⟨fun j hj => up_n (fun q => hj (by omega)), fun j hj => up_n (fun q => hj (by omega))⟩⟩
  · show nI (bh.length + 1) = nI (bh ++ [x]).length
    rw [List.length_append, List.length_singleton]
  · show rd (upd (A 20) bh.length x) 0 (bh ++ [x]).length = bh ++ [x]
    rw [List.length_append, List.length_singleton, rd_snoc, h3]
theorem p_W_openText_t {I : Nat → Int32} {A : Nat → Nat → Int32} {B : Nat → Nat → Int64} {Q : xQ} {pl : List (List Int32)} {bh : List Int32} {z : Int32} {u : Nat} (hw : WS 2 15 5 20 6 21 I A pl bh z u) (hl : pl.length < 14) (hu : u < 512) (hq : ∀ I' A', WO 2 15 5 20 6 21 I' A' pl bh z 0 [] → kp 2 15 5 20 6 21 I I' A A' → Q (.inl none) (HX I' A' B) 0) : xRun tb_W_openText 1 [.ref 19] (HX I A B) Q := by
  obtain ⟨⟨h1, h1', h1''⟩, ⟨h2, h3⟩, h4, h5⟩ := hw
  refine ⟨Nat.le_of_ble_eq_true rfl, ?_⟩
  refine xG.go [31, 40] 60 ?_
  show (((14 : Int32) ≤ (I 6) → Q (.inl none) (HX I A B) 0) ∧ (¬ (14 : Int32) ≤ (I 6) → xG tb_W_openText Q (31, [some (.ref 19)], [.ref 14, .int ((I 6) + (1 : Int32)), .ref 21], (HX (va_up I 6 ((I 6) + (1 : Int32))) A B), 0)))
  rw [h4, nI_1]
  refine br_n (nI_ge (b := 14) hl (by omega)) ?_
  refine xG.callV (F := xRun tb_B_size 1) (a := 14) rfl rfl rfl rfl (p_B_size_t ?_)
  rw [show va_up I 6 (nI (pl.length + 1)) 2 = I 2 from rfl, h1]
  refine xG.go [31, 40] 60 ?_
  show (vp_in (nI (pl.length + 1)) 15 ∧ xG tb_W_openText Q (40, [some (.ref 19)], [.int (0 : Int32), .ref 14], (HX (va_up I 6 (nI (pl.length + 1))) (va_up A 21 (upd (A 21) (nI (pl.length + 1)).toNatClampNeg (nI (2 + (fl pl).length)))) B), 0))
  rw [nI_clamp (by omega)]
  refine ⟨vp_in_nI (by omega) (by omega), ?_⟩
  refine xG.callV (F := xRun tb_B_append 2) (a := 14) rfl rfl rfl rfl (p_B_append_t (n := 2 + (fl pl).length) h1 (by omega) ?_)
  refine xG.go [31, 40] 20 ?_
  refine hq _ _ ⟨⟨rfl, ?_⟩, ⟨h2, h3⟩, rfl, fun i hi => ?_, ?_⟩ ⟨fun j hj => ?_, fun j hj => ?_⟩
  · show rd (upd (A 15) (2 + (fl pl).length) 0) 0 (2 + (fl pl).length + 1) = (202 :: z :: fl pl) ++ [0]
    rw [rd_snoc, h1'']
  · show upd (A 21) (pl.length + 1) (nI (2 + (fl pl).length)) (i + 1) = _
    rw [pk_un (by omega)]
    exact h5 i hi
  · show upd (A 21) (pl.length + 1) (nI (2 + (fl pl).length)) (pl.length + 1) = _
    exact pk_us
  · rw [up_n (fun q => hj (by omega)), up_n (fun q => hj (by omega))]
  · rw [up_n (fun q => hj (by omega)), up_n (fun q => hj (by omega))]
/-- one character more -/
theorem p_W_ch_t {I : Nat → Int32} {A : Nat → Nat → Int32} {B : Nat → Nat → Int64} {Q : xQ} {pl : List (List Int32)} {bh y : List Int32} {z v x : Int32} (hw : WO 2 15 5 20 6 21 I A pl bh z v y) (hu : 2 + (fl pl).length + (1 + y.length) < 512) (hq : ∀ I' A', WO 2 15 5 20 6 21 I' A' pl bh z v (y ++ [x]) → kp 2 15 5 20 6 21 I I' A A' → Q (.inl none) (HX I' A' B) 0) : xRun tb_B_append 2 [.ref 14, .int x] (HX I A B) Q := by
  obtain ⟨⟨h1, h1'⟩, h2, h3⟩ := hw
  refine p_B_append_t h1 hu (hq _ _ ⟨⟨?_, ?_⟩, h2, h3⟩ ⟨fun j hj => up_n (fun q => hj (by omega)), fun j hj => up_n (fun q => hj (by omega))⟩)
  · show nI (2 + (fl pl).length + (1 + y.length) + 1) = nI (2 + (fl pl).length + (1 + (y ++ [x]).length))
    rw [List.length_append, List.length_singleton, ← Nat.add_assoc 1, Nat.add_assoc _ (1 + y.length)]
  · show rd (upd (A 15) (2 + (fl pl).length + (1 + y.length)) x) 0 (2 + (fl pl).length + (1 + (y ++ [x]).length)) = (202 :: z :: fl pl) ++ (v :: (y ++ [x]))
    rw [List.length_append, List.length_singleton, ← Nat.add_assoc 1, ← Nat.add_assoc _ (1 + y.length), rd_snoc, h1', List.append_assoc]
    rfl
theorem p_W_appendText_lt {B : Nat → Nat → Int64} {Q : xQ} {pl : List (List Int32)} {bh : List Int32} {z v : Int32} {t : Int64} : ∀ (c i : Nat) (I : Nat → Int32) (A : Nat → Nat → Int32) (y : List Int32), i + c = tlen t → WO 2 15 5 20 6 21 I A pl bh z v y → 2 + (fl pl).length + (1 + y.length) + c ≤ 512 → (∀ I' A', WO 2 15 5 20 6 21 I' A' pl bh z v (y ++ rd (fun i => tch t (nI i)) i c) → kp 2 15 5 20 6 21 I I' A A' → Q (.inl none) (HX I' A' B) 0) → xG tb_W_appendText Q (8, [some (.ref 19), some (.long t), none, some (.int (nI (tlen t))), some (.int (nI i))], [], (HX I A B), 0)
  | 0, i, I, A, y, h, hw, hu, hq => by
    have := tlen_le t
    refine xG.go [1, 8, 21, 24] 60 ?_
    show (((nI (tlen t)) ≤ (nI i) → Q (.inl none) (HX I A B) 0) ∧ (¬ (nI (tlen t)) ≤ (nI i) → xG tb_W_appendText Q (21, [some (.ref 19), some (.long t), none, some (.int (nI (tlen t))), some (.int (nI i))], [.int (nI i), .long t, .ref 14], (HX I A B), 0)))
    exact br_y (nI_le (by omega) (by omega)) (hq I A (by rw [show rd (fun i => tch t (nI i)) i 0 = [] from rfl, List.append_nil]; exact hw) kp_refl)
  | c + 1, i, I, A, y, h, hw, hu, hq => by
    have := tlen_le t
    refine xG.go [1, 8, 21, 24] 60 ?_
    show (((nI (tlen t)) ≤ (nI i) → Q (.inl none) (HX I A B) 0) ∧ (¬ (nI (tlen t)) ≤ (nI i) → xG tb_W_appendText Q (21, [some (.ref 19), some (.long t), none, some (.int (nI (tlen t))), some (.int (nI i))], [.int (nI i), .long t, .ref 14], (HX I A B), 0)))
    refine br_n (nI_ge (by omega) (by omega)) ?_
    refine xG.call (F := xRun tb_T_charAt 3) rfl rfl (p_T_charAt ?_)
    refine xG.callV (F := xRun tb_B_append 2) (a := 14) rfl rfl rfl rfl (p_W_ch_t hw (by omega) (fun I' A' hw' hk => ?_))
    refine xG.go [8, 1, 21, 24] 20 ?_
    show xG tb_W_appendText Q (8, [some (.ref 19), some (.long t), none, some (.int (nI (tlen t))), some (.int (nI i + 1))], [], HX I' A' B, 0)
    rw [nI_1]
    refine p_W_appendText_lt c (i + 1) I' A' _ (by omega) hw' (by rw [List.length_append, List.length_singleton]; omega) (fun I'' A'' hw'' hk' => hq I'' A'' ?_ (kp_trans hk hk'))
    rw [List.append_assoc] at hw''
    exact hw''
theorem p_W_appendText_t {I : Nat → Int32} {A : Nat → Nat → Int32} {B : Nat → Nat → Int64} {Q : xQ} {pl : List (List Int32)} {bh y : List Int32} {z v : Int32} {t : Int64} (hw : WO 2 15 5 20 6 21 I A pl bh z v y) (hu : 2 + (fl pl).length + (1 + y.length) + tlen t ≤ 512) (hq : ∀ I' A', WO 2 15 5 20 6 21 I' A' pl bh z v (y ++ tx t) → kp 2 15 5 20 6 21 I I' A A' → Q (.inl none) (HX I' A' B) 0) : xRun tb_W_appendText 5 [.ref 19, .long t] (HX I A B) Q := by
  refine ⟨Nat.le_of_ble_eq_true rfl, ?_⟩
  refine xG.go [1, 8, 21, 24] 60 ?_
  show xG tb_W_appendText Q (1, [some (.ref 19), some (.long t), none, none, none], [.long t], (HX I A B), 0)
  refine xG.call (F := xRun tb_T_length 3) rfl rfl (p_T_length ?_)
  refine xG.go [8, 1, 21, 24] 20 ?_
  show xG tb_W_appendText Q (8, [some (.ref 19), some (.long t), none, some (.int (nI (tlen t))), some (.int (nI 0))], [], (HX I A B), 0)
  exact p_W_appendText_lt (tlen t) 0 I A y (Nat.zero_add _) hw hu hq
theorem p_W_close_lt {I : Nat → Int32} {A : Nat → Nat → Int32} {B : Nat → Nat → Int64} {Q : xQ} {pl : List (List Int32)} {bh y : List Int32} {z : Int32} (hw : WO 2 15 5 20 6 21 I A pl bh z (nI y.length) y) (hu : 2 + (fl pl).length + (1 + y.length) ≤ 512) (hl : pl.length < 14) (hK : xG tb_W_closeText Q (71, [some (.ref 19), some (.int (nI (2 + (fl pl).length))), some (.int (nI y.length)), some (.int (nI (kn y pl + 1)))], [], (HX I A B), 0)) : ∀ (c j : Nat), j + c = pl.length → j ≤ kn y pl → xG tb_W_closeText Q (33, [some (.ref 19), some (.int (nI (2 + (fl pl).length))), some (.int (nI y.length)), some (.int (nI (j + 1)))], [], (HX I A B), 0)
  | 0, j, h, hj => by
    have hk := kn_le y pl
    refine xG.go [14, 28, 33, 59, 71, 84, 99] 60 ?_
    show (((I 6) ≤ (nI (j + 1)) → xG tb_W_closeText Q (71, [some (.ref 19), some (.int (nI (2 + (fl pl).length))), some (.int (nI y.length)), some (.int (nI (j + 1)))], [], (HX I A B), 0)) ∧ (¬ (I 6) ≤ (nI (j + 1)) → (vp_in (nI (j + 1)) 15 ∧ xG tb_W_closeText Q (59, [some (.ref 19), some (.int (nI (2 + (fl pl).length))), some (.int (nI y.length)), some (.int (nI (j + 1)))], [.int ((nI y.length) + (1 : Int32)), .int (nI (2 + (fl pl).length)), .ref 14, .int ((A 21) (nI (j + 1)).toNatClampNeg), .ref 14], (HX I A B), 0))))
    rw [hw.2.2.1]
    have e : j = kn y pl := by omega
    rw [e]
    rw [e] at h
    exact br_y (nI_le (by omega) (by omega)) hK
  | c + 1, j, h, hj => by
    have hk := kn_le y pl
    have hj' : j < pl.length := by omega
    refine xG.go [14, 28, 33, 59, 71, 84, 99] 60 ?_
    show (((I 6) ≤ (nI (j + 1)) → xG tb_W_closeText Q (71, [some (.ref 19), some (.int (nI (2 + (fl pl).length))), some (.int (nI y.length)), some (.int (nI (j + 1)))], [], (HX I A B), 0)) ∧ (¬ (I 6) ≤ (nI (j + 1)) → (vp_in (nI (j + 1)) 15 ∧ xG tb_W_closeText Q (59, [some (.ref 19), some (.int (nI (2 + (fl pl).length))), some (.int (nI y.length)), some (.int (nI (j + 1)))], [.int ((nI y.length) + (1 : Int32)), .int (nI (2 + (fl pl).length)), .ref 14, .int ((A 21) (nI (j + 1)).toNatClampNeg), .ref 14], (HX I A B), 0))))
    rw [hw.2.2.1, nI_clamp (by omega), hw.2.2.2.1 j hj', nI_1]
    refine br_n (nI_ge (by omega) (by omega)) ⟨vp_in_nI (by omega) (by omega), ?_⟩
    have ht := fl_take_le pl j
    refine xG.callV (F := xRun tb_B_hasEqualBytes 6) (a := 14) rfl rfl rfl rfl (p_B_eq_t hu hw.1.1 (by omega) (by omega) ?_)
    have hs := same_text hj' rfl (by omega) hw.1.2
    have hst := kn_step hj' hj
    by_cases w : pl[j] = y
    · rw [decide_eq_true (hs.mpr w)]
      refine xG.go [14, 28, 33, 59, 71, 84, 99] 60 ?_
      show (((bI true) = 0 → xG tb_W_closeText Q (33, [some (.ref 19), some (.int (nI (2 + (fl pl).length))), some (.int (nI y.length)), some (.int ((nI (j + 1)) + (1 : Int32)))], [], (HX I A B), 0)) ∧ (¬ (bI true) = 0 → xG tb_W_closeText Q (71, [some (.ref 19), some (.int (nI (2 + (fl pl).length))), some (.int (nI y.length)), some (.int (nI (j + 1)))], [], (HX I A B), 0)))
      rw [← hst.mp w]
      exact br_n (by decide) hK
    · rw [decide_eq_false (fun q => w (hs.mp q))]
      refine xG.go [14, 28, 33, 59, 71, 84, 99] 60 ?_
      show (((bI false) = 0 → xG tb_W_closeText Q (33, [some (.ref 19), some (.int (nI (2 + (fl pl).length))), some (.int (nI y.length)), some (.int ((nI (j + 1)) + (1 : Int32)))], [], (HX I A B), 0)) ∧ (¬ (bI false) = 0 → xG tb_W_closeText Q (71, [some (.ref 19), some (.int (nI (2 + (fl pl).length))), some (.int (nI y.length)), some (.int (nI (j + 1)))], [], (HX I A B), 0)))
      rw [nI_1]
      have hne : ¬ kn y pl = j := fun q => w (hst.mpr q)
      exact br_y rfl (p_W_close_lt hw hu hl hK c (j + 1) (by omega) (by omega))
theorem p_W_closeText_t {I : Nat → Int32} {A : Nat → Nat → Int32} {B : Nat → Nat → Int64} {Q : xQ} {pl : List (List Int32)} {bh y : List Int32} {z : Int32} {u : Nat} (hw : WO 2 15 5 20 6 21 I A pl bh z 0 y) (hu : 2 + (fl pl).length + (1 + y.length) ≤ u) (hu5 : u ≤ 512) (hl : pl.length < 14) (hb : bh.length < 22) (hq : ∀ I' A', WS 2 15 5 20 6 21 I' A' (addP pl y) (bh ++ [nI (kn y pl + 1)]) z u → kp 2 15 5 20 6 21 I I' A A' → Q (.inl none) (HX I' A' B) 0) : xRun tb_W_closeText 4 [.ref 19] (HX I A B) Q := by
  obtain ⟨⟨h1, h1'⟩, h2, h3, h4, h5⟩ := hw
  have hkn := kn_le y pl
  refine ⟨Nat.le_of_ble_eq_true rfl, ?_⟩
  refine xG.go [14, 28, 33, 59, 71, 84, 99] 60 ?_
  show (vp_in (I 6) 15 ∧ xG tb_W_closeText Q (14, [some (.ref 19), some (.int ((A 21) (I 6).toNatClampNeg)), none, none], [.ref 14], (HX I A B), 0))
  rw [h3, nI_clamp (by omega), h5]
  refine ⟨vp_in_nI (by omega) (by omega), ?_⟩
  refine xG.callV (F := xRun tb_B_size 1) (a := 14) rfl rfl rfl rfl (p_B_size_t ?_)
  rw [h1]
  refine xG.go [14, 28, 33, 59, 71, 84, 99] 60 ?_
  show xG tb_W_closeText Q (28, [some (.ref 19), some (.int (nI (2 + (fl pl).length))), some (.int (((nI (2 + (fl pl).length + (1 + y.length))) - (nI (2 + (fl pl).length))) - (1 : Int32))), none], [.int (((nI (2 + (fl pl).length + (1 + y.length))) - (nI (2 + (fl pl).length))) - (1 : Int32)), .int (nI (2 + (fl pl).length)), .ref 14], (HX I A B), 0)
  have es : nI (2 + (fl pl).length + (1 + y.length)) - nI (2 + (fl pl).length) - 1 = nI y.length := by
    rw [← nI_add, Int32.add_comm, Int32.add_sub_cancel, Nat.add_comm, nI_pred]
  rw [es]
  refine xG.callV (F := xRun tb_B_set 3) (a := 14) rfl rfl rfl rfl (p_B_set_t (n := 2 + (fl pl).length + (1 + y.length)) (by omega) h1 (fun _ => ?_) (fun w => ?_))
  rotate_left
  · rw [h1, isC_nI (by omega) (by omega), decide_eq_true (by omega)] at w
    cases w
  rw [nI_clamp (by omega)]
  have hrow : rd (upd (A 15) (2 + (fl pl).length) (nI y.length)) 0 (2 + (fl pl).length + (1 + y.length)) = (202 :: z :: fl pl) ++ (nI y.length :: y) := by
    have h7 := rd_pre (X := 202 :: z :: fl pl) (Y := 0 :: y) (by rw [List.length_cons, List.length_cons, List.length_cons, show (fl pl).length + 1 + 1 + (y.length + 1) = 2 + (fl pl).length + (1 + y.length) by omega]; exact h1')
    rw [List.length_cons, List.length_cons, List.length_cons, show (fl pl).length + 1 + 1 = 2 + (fl pl).length by omega] at h7
    have h8 : rd (A 15) (2 + (fl pl).length + 1) y.length = y := by
      have := (List.cons.inj h7.2).2
      rw [Nat.zero_add] at this
      exact this
    rw [rd_add, rd_out (Or.inr (by omega)), h7.1, Nat.zero_add, Nat.add_comm 1]
    show _ ++ (upd (A 15) (2 + (fl pl).length) (nI y.length) (2 + (fl pl).length) :: rd (upd (A 15) (2 + (fl pl).length) (nI y.length)) (2 + (fl pl).length + 1) y.length) = _
    rw [pk_us, rd_out (Or.inl (by omega)), h8]
  have hw2 : WO 2 15 5 20 6 21 I (va_up A 15 (upd (A 15) (2 + (fl pl).length) (nI y.length))) pl bh z (nI y.length) y := ⟨⟨h1, hrow⟩, h2, h3, h4, h5⟩
  have hk2 : kp 2 15 5 20 6 21 I I A (va_up A 15 (upd (A 15) (2 + (fl pl).length) (nI y.length))) := ⟨fun _ _ => rfl, fun j hj => up_n (fun q => hj (by omega))⟩
  generalize va_up A 15 (upd (A 15) (2 + (fl pl).length) (nI y.length)) = A2 at hw2 hk2 ⊢
  refine xG.go [14, 28, 59, 84, 99, 33] 20 ?_
  show xG tb_W_closeText Q (33, [some (.ref 19), some (.int (nI (2 + (fl pl).length))), some (.int (nI y.length)), some (.int (nI (0 + 1)))], [], HX I A2 B, 0)
  refine p_W_close_lt hw2 (by omega) hl ?_ pl.length 0 (Nat.zero_add _) (Nat.zero_le _)
  obtain ⟨⟨g1, g1'⟩, g2, g3, g4, g5⟩ := hw2
  refine xG.go [14, 28, 33, 59, 84, 99] 60 ?_
  show (((I 6) ≤ (nI (kn y pl + 1)) → xG tb_W_closeText Q (99, [some (.ref 19), some (.int (nI (2 + (fl pl).length))), some (.int (nI y.length)), some (.int (nI (kn y pl + 1)))], [.int (nI (kn y pl + 1)), .ref 19], (HX I A2 B), 0)) ∧ (¬ (I 6) ≤ (nI (kn y pl + 1)) → xG tb_W_closeText Q (84, [some (.ref 19), some (.int (nI (2 + (fl pl).length))), some (.int (nI y.length)), some (.int (nI (kn y pl + 1)))], [.int (nI (2 + (fl pl).length)), .ref 14], (HX I A2 B), 0)))
  rw [g3]
  have hpre := (rd_pre (f := A2 15) (o := 0) (X := 202 :: z :: fl pl) (Y := nI y.length :: y) (by rw [List.length_cons, List.length_cons, List.length_cons, show (fl pl).length + 1 + 1 + (y.length + 1) = 2 + (fl pl).length + (1 + y.length) by omega]; exact g1')).1
  rw [List.length_cons, List.length_cons, show (fl pl).length + 1 + 1 = 2 + (fl pl).length by omega] at hpre
  by_cases w : kn y pl < pl.length
  · refine br_n (nI_ge (by omega) (by omega)) ?_
    refine xG.callV (F := xRun tb_B_cutTo 2) (a := 14) rfl rfl rfl rfl (p_B_cutTo_t (n := 2 + (fl pl).length + (1 + y.length)) g1 (by omega) (by omega) ?_)
    refine xG.go [14, 28, 33, 59, 84, 99] 60 ?_
    show xG tb_W_closeText Q (99, [some (.ref 19), some (.int (nI (2 + (fl pl).length))), some (.int (nI y.length)), some (.int (nI (kn y pl + 1)))], [.int (nI (kn y pl + 1)), .ref 19], (HX (va_up (va_up I 2 (nI (2 + (fl pl).length))) 6 ((I 6) - (1 : Int32))) A2 B), 0)
    rw [g3, nI_pred]
    have hx : addP pl y = pl := if_pos w
    rw [hx] at hq
    refine xG.callV (F := xRun tb_W_useNumber 2) (a := 19) rfl rfl rfl rfl (p_W_useNumber_t (u := u) (pl := pl) (bh := bh) (z := z) ⟨⟨rfl, by omega, hpre⟩, g2, rfl, g4⟩ hb (fun I' A' hw' hk' => ?_))
    refine xG.go [14, 28, 59, 84, 99] 20 ?_
    refine hq I' A' hw' (kp_trans hk2 (kp_trans ⟨fun j hj => ?_, fun _ _ => rfl⟩ hk'))
    rw [up_n (fun q => hj (by omega)), up_n (fun q => hj (by omega))]
  · refine br_y (nI_le (by omega) (by omega)) ?_
    have hx : addP pl y = pl ++ [y] := if_neg w
    have hfx : (fl (pl ++ [y])).length = (fl pl).length + (1 + y.length) := by rw [fl_app, fl_1, List.length_append, List.length_cons, Nat.add_comm 1]
    rw [hx] at hq
    refine xG.callV (F := xRun tb_W_useNumber 2) (a := 19) rfl rfl rfl rfl (p_W_useNumber_t (u := u) (pl := pl ++ [y]) (bh := bh) (z := z) ⟨⟨?_, by rw [hfx]; omega, ?_⟩, g2, ?_, fun i hi => ?_⟩ hb (fun I' A' hw' hk' => ?_))
    · rw [hfx, g1, Nat.add_assoc]
    · rw [hfx, ← Nat.add_assoc, g1', fl_app, fl_1]
      rfl
    · rw [g3, List.length_append, List.length_singleton]
    · rw [List.length_append, List.length_singleton] at hi
      by_cases q : i < pl.length
      · rw [g4 i q, List.take_append_of_le_length (by omega)]
      · obtain rfl : i = pl.length := by omega
        rw [g5, List.take_left']
        rfl
    · refine xG.go [14, 28, 59, 84, 99] 20 ?_
      exact hq I' A' hw' (kp_trans hk2 hk')
theorem p_W_useText_t {I : Nat → Int32} {A : Nat → Nat → Int32} {B : Nat → Nat → Int64} {Q : xQ} {pl : List (List Int32)} {bh : List Int32} {z : Int32} {u : Nat} {t : Int64} (hw : WS 2 15 5 20 6 21 I A pl bh z u) (hu : u + 9 ≤ 512) (hl : pl.length < 14) (hb : bh.length < 22) (hq : ∀ I' A', WS 2 15 5 20 6 21 I' A' (addP pl (tx t)) (bh ++ [nI (kn (tx t) pl + 1)]) z (u + 9) → kp 2 15 5 20 6 21 I I' A A' → Q (.inl none) (HX I' A' B) 0) : xRun tb_W_useText 3 [.ref 19, .long t] (HX I A B) Q := by
  have h8 := tlen_le t
  have hfl := hw.1.2.1
  refine ⟨Nat.le_of_ble_eq_true rfl, ?_⟩
  refine xG.go [1, 6, 10] 60 ?_
  show xG tb_W_useText Q (1, [some (.ref 19), some (.long t), none], [.ref 19], (HX I A B), 0)
  refine xG.callV (F := xRun tb_W_openText 1) (a := 19) rfl rfl rfl rfl (p_W_openText_t hw hl (by omega) (fun I1 A1 hw1 hk1 => ?_))
  refine xG.go [1, 6, 10] 60 ?_
  show xG tb_W_useText Q (6, [some (.ref 19), some (.long t), none], [.long t, .ref 19], (HX I1 A1 B), 0)
  refine xG.callV (F := xRun tb_W_appendText 5) (a := 19) rfl rfl rfl rfl (p_W_appendText_t hw1 (by rw [List.length_nil]; omega) (fun I2 A2 hw2 hk2 => ?_))
  rw [List.nil_append] at hw2
  refine xG.go [1, 6, 10] 60 ?_
  show xG tb_W_useText Q (10, [some (.ref 19), some (.long t), none], [.ref 19], (HX I2 A2 B), 0)
  refine xG.callV (F := xRun tb_W_closeText 4) (a := 19) rfl rfl rfl rfl (p_W_closeText_t (u := u + 9) hw2 (by rw [tx_len]; omega) hu hl hb (fun I3 A3 hw3 hk3 => ?_))
  refine xG.go [1, 6, 10] 20 ?_
  exact hq I3 A3 hw3 (kp_trans hk1 (kp_trans hk2 hk3))
