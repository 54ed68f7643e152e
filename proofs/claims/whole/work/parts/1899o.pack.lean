-- movePackage
theorem p_T_placed {h : xH} {Q : xQ} {s : Nat} (hs : s ≤ 8) (hq : Q (.inl (some (.long (plc s)))) h 0) : xRun tb_T_placed 2 [.int 47, .int (nI s)] h Q := by
  refine ⟨Nat.le_of_ble_eq_true rfl, ?_⟩
  refine xG.go [] 60 ?_
  show (((nI s) < 0 → Q (.inl (some (.long (0 : Int64)))) h 0) ∧ (¬ (nI s) < 0 → (((nI s) < (8 : Int32) → Q (.inl (some (.long (xshl ((47 : Int32) &&& (255 : Int32)).toInt64 ((8 : Int32) * (nI s)))))) h 0) ∧ (¬ (nI s) < (8 : Int32) → Q (.inl (some (.long (0 : Int64)))) h 0))))
  unfold plc at hq
  refine br_n (nI_pos (by omega)) ⟨fun z => ?_, fun z => ?_⟩
  · have w : s < 8 := by
      rcases Nat.lt_or_ge s 8 with q | q
      · exact q
      · exact absurd z (nI_nlt (b := 8) q (by omega))
    rw [if_pos w] at hq
    exact hq
  · rw [if_neg (fun w => z (nI_lt (b := 8) w (by omega)))] at hq
    exact hq
theorem p_T_lastIdentifier {h : xH} {Q : xQ} {t : Int64} (hq : Q (.inl (some (.long (lst t)))) h 0) : xRun tb_T_lastIdentifier 3 [.long t] h Q := by
  have h8 := lsl_le t
  refine ⟨Nat.le_of_ble_eq_true rfl, ?_⟩
  refine xG.go [1] 60 ?_
  show xG tb_T_lastIdentifier Q (1, [some (.long t), none, none], [.long t], h, 0)
  refine xG.call (F := xRun tb_T_lastSlash 3) rfl rfl (p_T_lastSlash ?_)
  refine xG.go [1] 60 ?_
  show ((((nI (lsl t) - 1) + (1 : Int32)) < (8 : Int32) → Q (.inl (some (.long (xushr t ((8 : Int32) * ((nI (lsl t) - 1) + (1 : Int32))))))) h 0) ∧ (¬ ((nI (lsl t) - 1) + (1 : Int32)) < (8 : Int32) → Q (.inl (some (.long (0 : Int64)))) h 0))
  have e : nI (lsl t) - 1 + 1 = nI (lsl t) := by rw [Int32.sub_add_cancel]
  rw [e]
  unfold lst at hq
  refine ⟨fun z => ?_, fun z => ?_⟩
  · have w : lsl t < 8 := by
      rcases Nat.lt_or_ge (lsl t) 8 with q | q
      · exact q
      · exact absurd z (nI_nlt (b := 8) q (by omega))
    rw [if_pos w] at hq
    exact hq
  · rw [if_neg (fun w => z (nI_lt (b := 8) w (by omega)))] at hq
    exact hq
theorem p_T_inPackage {h : xH} {Q : xQ} {t to : Int64} (hq : Q (.inl (some (.long (inP t to)))) h 0) : xRun tb_T_inPackage 7 [.long t, .long to] h Q := by
  have h8 := tlen_le to
  have h8' := tlen_le (lst t)
  refine ⟨Nat.le_of_ble_eq_true rfl, ?_⟩
  refine xG.go [1, 16, 27, 43] 60 ?_
  show xG tb_T_inPackage Q (1, [some (.long t), none, some (.long to), none, none, none, none], [.long t], h, 0)
  refine xG.call (F := xRun tb_T_lastIdentifier 3) rfl rfl (p_T_lastIdentifier ?_)
  refine xG.go [1, 16, 27, 43] 60 ?_
  show (((lg_cmp to (0 : Int64)) = 0 → Q (.inl (some (.long (lst t)))) h 0) ∧ (¬ (lg_cmp to (0 : Int64)) = 0 → xG tb_T_inPackage Q (16, [some (.long t), none, some (.long to), none, some (.long (lst t)), none, none], [.long to], h, 0)))
  unfold inP at hq
  refine ⟨fun z => ?_, fun z => ?_⟩
  · rw [if_pos ((lg_cmp_eq _ _).mp z)] at hq
    exact hq
  · rw [if_neg (fun q => z ((lg_cmp_eq _ _).mpr q))] at hq
    refine xG.call (F := xRun tb_T_length 3) rfl rfl (p_T_length ?_)
    refine xG.go [1, 16, 27, 43] 60 ?_
    show xG tb_T_inPackage Q (27, [some (.long t), none, some (.long to), none, some (.long (lst t)), none, some (.int (nI (tlen to)))], [.long (lst t), .int ((nI (tlen to)) + (1 : Int32))], h, 0)
    refine xG.call (F := xRun tb_T_length 3) rfl rfl (p_T_length ?_)
    rw [nI_1]
    refine xG.go [1, 16, 27, 43] 60 ?_
    show ((((nI (tlen to + 1)) + (nI (tlen (lst t)))) ≤ (8 : Int32) → xG tb_T_inPackage Q (43, [some (.long t), none, some (.long to), none, some (.long (lst t)), none, some (.int (nI (tlen to)))], [.int (nI (tlen to)), .int (47 : Int32), .long to], h, 0)) ∧ (¬ ((nI (tlen to + 1)) + (nI (tlen (lst t)))) ≤ (8 : Int32) → Q (.inl (some (.long (0 : Int64)))) h 0))
    rw [nI_add]
    refine ⟨fun w => ?_, fun w => ?_⟩
    · rw [if_neg (fun q => nI_ge (a := 8) q (by omega) w)] at hq
      refine xG.call (F := xRun tb_T_placed 2) rfl rfl (p_T_placed h8 ?_)
      refine xG.go [1, 16, 27, 43] 60 ?_
      show Q (.inl (some (.long ((to ||| (plc (tlen to))) ||| (xshl (lst t) ((8 : Int32) * ((nI (tlen to)) + (1 : Int32)))))))) h 0
      rw [nI_1]
      exact hq
    · rw [if_pos (by
        rcases Nat.lt_or_ge 8 (tlen to + 1 + tlen (lst t)) with q | q
        · exact q
        · exact absurd (nI_le (b := 8) q (by omega)) w)] at hq
      exact hq
theorem p_M_withPackage_l {h : xH} {Q : xQ} {t to : Int64} {f g p : Nat} {a5 : Int32} (hf : f + p ≤ 8) (hg : g + p ≤ 8) : ∀ (k i : Nat) (r : Int64), i + k = p → Q (.inl (some (.long (wpF t f g k i r)))) h 0 → xG tb_M_withPackage Q (84, [some (.long t), none, some (.long to), none, some (.int (nI f)), some (.int a5), some (.long r), none, some (.int (nI g)), some (.int (nI p)), some (.int (nI i))], [], h, 0)
  | 0, i, r, e, hq => by
    refine xG.go [1, 7, 61, 84, 99] 60 ?_
    show (((nI p) ≤ (nI i) → Q (.inl (some (.long r))) h 0) ∧ (¬ (nI p) ≤ (nI i) → xG tb_M_withPackage Q (99, [some (.long t), none, some (.long to), none, some (.int (nI f)), some (.int a5), some (.long r), none, some (.int (nI g)), some (.int (nI p)), some (.int (nI i))], [.int ((nI f) + (nI i)), .long t, .long r], h, 0)))
    exact br_y (nI_le (by omega) (by omega)) hq
  | k + 1, i, r, e, hq => by
    refine xG.go [1, 7, 61, 84, 99] 60 ?_
    show (((nI p) ≤ (nI i) → Q (.inl (some (.long r))) h 0) ∧ (¬ (nI p) ≤ (nI i) → xG tb_M_withPackage Q (99, [some (.long t), none, some (.long to), none, some (.int (nI f)), some (.int a5), some (.long r), none, some (.int (nI g)), some (.int (nI p)), some (.int (nI i))], [.int ((nI f) + (nI i)), .long t, .long r], h, 0)))
    rw [nI_add]
    refine br_n (nI_ge (by omega) (by omega)) ?_
    refine xG.call (F := xRun tb_M_charAt 3) rfl rfl (p_M_charAt (by omega) ?_)
    refine xG.go [1, 7, 61, 84, 99] 60 ?_
    show xG tb_M_withPackage Q (84, [some (.long t), none, some (.long to), none, some (.int (nI f)), some (.int a5), some (.long (r ||| (xshl (tch t (nI (f + i))).toInt64 ((8 : Int32) * ((nI g) + (nI i)))))), none, some (.int (nI g)), some (.int (nI p)), some (.int ((nI i) + (1 : Int32)))], [], h, 0)
    rw [nI_add, nI_1]
    exact p_M_withPackage_l hf hg k (i + 1) _ (by omega) hq
theorem p_M_withPackage_2 {h : xH} {Q : xQ} {t to r : Int64} {g : Nat} {a5 : Int32} {w9 w10 : Option Value} (hg : g ≤ 9) (hl : lsl t ≤ mlen t) (hq : Q (.inl (some (.long (if 8 < g + (mlen t - lsl t) then 0 else wpF t (lsl t) g (mlen t - lsl t) 0 r)))) h 0) : xG tb_M_withPackage Q (60, [some (.long t), none, some (.long to), none, some (.int (nI (lsl t))), some (.int a5), some (.long r), none, some (.int (nI g)), w9, w10], [], h, 0) := by
  have h8 := mlen_le t
  refine xG.go [1, 7, 61, 84, 99] 60 ?_
  show xG tb_M_withPackage Q (61, [some (.long t), none, some (.long to), none, some (.int (nI (lsl t))), some (.int a5), some (.long r), none, some (.int (nI g)), w9, w10], [.long t], h, 0)
  refine xG.call (F := xRun tb_M_length 3) rfl rfl (p_M_length ?_)
  refine xG.go [1, 7, 61, 84, 99] 60 ?_
  show ((((nI g) + ((nI (mlen t)) - (nI (lsl t)))) ≤ (8 : Int32) → xG tb_M_withPackage Q (84, [some (.long t), none, some (.long to), none, some (.int (nI (lsl t))), some (.int a5), some (.long r), none, some (.int (nI g)), some (.int ((nI (mlen t)) - (nI (lsl t)))), some (.int (0 : Int32))], [], h, 0)) ∧ (¬ ((nI g) + ((nI (mlen t)) - (nI (lsl t)))) ≤ (8 : Int32) → Q (.inl (some (.long (0 : Int64)))) h 0))
  have es : nI (mlen t) - nI (lsl t) = nI (mlen t - lsl t) := by
    have e : nI (mlen t) = nI (mlen t - lsl t) + nI (lsl t) := by rw [nI_add, show mlen t - lsl t + lsl t = mlen t by omega]
    rw [e, Int32.add_sub_cancel]
  rw [es, nI_add]
  refine ⟨fun w => ?_, fun w => ?_⟩
  · have w' : ¬ 8 < g + (mlen t - lsl t) := fun q => nI_ge (a := 8) q (by omega) w
    rw [if_neg w'] at hq
    exact p_M_withPackage_l (by omega) (by omega) _ 0 r (Nat.zero_add _) hq
  · rw [if_pos (by
      rcases Nat.lt_or_ge 8 (g + (mlen t - lsl t)) with q | q
      · exact q
      · exact absurd (nI_le (b := 8) q (by omega)) w)] at hq
    exact hq
theorem p_M_withPackage {h : xH} {Q : xQ} {t to : Int64} (hl : lsl t ≤ mlen t) (hq : Q (.inl (some (.long (wiP t to)))) h 0) : xRun tb_M_withPackage 11 [.long t, .long to] h Q := by
  have h8 := mlen_le to
  refine ⟨Nat.le_of_ble_eq_true rfl, ?_⟩
  refine xG.go [1, 7, 43, 61, 84, 99] 60 ?_
  show xG tb_M_withPackage Q (1, [some (.long t), none, some (.long to), none, none, none, none, none, none, none, none], [.long t], h, 0)
  refine xG.call (F := xRun tb_M_lastPart 4) rfl rfl (p_M_lastPart ?_)
  refine xG.go [1, 7, 43, 61, 84, 99] 60 ?_
  show xG tb_M_withPackage Q (7, [some (.long t), none, some (.long to), none, some (.int (nI (lsl t))), none, none, none, none, none, none], [.long to], h, 0)
  refine xG.call (F := xRun tb_M_length 3) rfl rfl (p_M_length ?_)
  refine xG.go [1, 7, 43, 61, 84, 99] 60 ?_
  show (((nI (mlen to)) ≤ 0 → xG tb_M_withPackage Q (43, [some (.long t), none, some (.long to), none, some (.int (nI (lsl t))), some (.int (nI (mlen to))), none, none, none, none, none], [.long (0 : Int64)], h, 0)) ∧ (¬ (nI (mlen to)) ≤ 0 → (((8 : Int32) ≤ (nI (mlen to)) → xG tb_M_withPackage Q (43, [some (.long t), none, some (.long to), none, some (.int (nI (lsl t))), some (.int (nI (mlen to))), none, none, none, none, none], [.long (to ||| (0 : Int64))], h, 0)) ∧ (¬ (8 : Int32) ≤ (nI (mlen to)) → xG tb_M_withPackage Q (43, [some (.long t), none, some (.long to), none, some (.int (nI (lsl t))), some (.int (nI (mlen to))), none, none, none, none, none], [.long (to ||| (xshl (47 : Int64) ((8 : Int32) * (nI (mlen to)))))], h, 0)))))
  unfold wiP at hq
  rcases Nat.eq_zero_or_pos (mlen to) with q | q
  · rw [q] at hq ⊢
    rw [show (if 0 < 0 then 0 + 1 else 0) = 0 from if_neg (Nat.lt_irrefl 0), show (if 0 < 0 then to ||| plc 0 else 0) = 0 from if_neg (Nat.lt_irrefl 0)] at hq
    refine br_y (by decide) ?_
    refine xG.go [1, 7, 60, 61, 84, 99] 60 ?_
    show (((nI 0) ≤ 0 → xG tb_M_withPackage Q (60, [some (.long t), none, some (.long to), none, some (.int (nI (lsl t))), some (.int (nI 0)), some (.long (0 : Int64)), none, some (.int (0 : Int32)), none, none], [], h, 0)) ∧ (¬ (nI 0) ≤ 0 → xG tb_M_withPackage Q (60, [some (.long t), none, some (.long to), none, some (.int (nI (lsl t))), some (.int (nI 0)), some (.long (0 : Int64)), none, some (.int ((nI 0) + (1 : Int32))), none, none], [], h, 0)))
    exact br_y (by decide) (p_M_withPackage_2 (g := 0) (by omega) hl hq)
  · rw [if_pos q, if_pos q] at hq
    refine br_n (nI_nle q (by omega)) ?_
    have key : ∀ r, r = to ||| plc (mlen to) → xG tb_M_withPackage Q (43, [some (.long t), none, some (.long to), none, some (.int (nI (lsl t))), some (.int (nI (mlen to))), none, none, none, none, none], [.long r], h, 0) := by
      rintro r rfl
      refine xG.go [1, 7, 60, 61, 84, 99] 60 ?_
      show (((nI (mlen to)) ≤ 0 → xG tb_M_withPackage Q (60, [some (.long t), none, some (.long to), none, some (.int (nI (lsl t))), some (.int (nI (mlen to))), some (.long (to ||| plc (mlen to))), none, some (.int (0 : Int32)), none, none], [], h, 0)) ∧ (¬ (nI (mlen to)) ≤ 0 → xG tb_M_withPackage Q (60, [some (.long t), none, some (.long to), none, some (.int (nI (lsl t))), some (.int (nI (mlen to))), some (.long (to ||| plc (mlen to))), none, some (.int ((nI (mlen to)) + (1 : Int32))), none, none], [], h, 0)))
      rw [nI_1]
      exact br_n (nI_nle q (by omega)) (p_M_withPackage_2 (by omega) hl hq)
    refine ⟨fun z => key _ ?_, fun z => key _ ?_⟩
    · rw [show plc (mlen to) = 0 from if_neg (fun w => nI_ge (b := 8) w (by omega) z)]
    · rw [show plc (mlen to) = xshl 47 ((8 : Int32) * nI (mlen to)) from if_pos (by
        rcases Nat.lt_or_ge (mlen to) 8 with w | w
        · exact w
        · exact absurd (nI_le (a := 8) w (by omega)) z)]
/-- does class c go with the package -/
def goB (A : Nat → Nat → Int32) (B : Nat → Nat → Int64) (fr : Int64) (c : Nat) : Bool := decide (A 5 c = 0 ∧ pkg (B 2 c) = fr)
theorem p_S_goesWithPackage {I : Nat → Int32} {A : Nat → Nat → Int32} {B : Nat → Nat → Int64} {Q : xQ} {fr : Int64} {c : Nat} (hc : c < 8) (hq : Q (.inl (some (.int (bI (goB A B fr c))))) (HX I A B) 0) : xRun tb_S_goesWithPackage 4 [.ref 1, .int (nI c), .long fr] (HX I A B) Q := by
  refine ⟨Nat.le_of_ble_eq_true rfl, ?_⟩
  refine xG.go [15] 60 ?_
  show (vp_in (nI c) 8 ∧ ((((A 5) (nI c).toNatClampNeg) = 0 → (vp_in (nI c) 8 ∧ xG tb_S_goesWithPackage Q (15, [some (.ref 1), some (.int (nI c)), some (.long fr), none], [.long ((B 2) (nI c).toNatClampNeg)], (HX I A B), 0))) ∧ (¬ ((A 5) (nI c).toNatClampNeg) = 0 → (((0 : Int32) = (0 : Int32) ∨ (0 : Int32) = 1) ∧ Q (.inl (some (.int (0 : Int32)))) (HX I A B) 0))))
  rw [nI_clamp (by omega)]
  have hin : vp_in (nI c) 8 := vp_in_nI hc (by omega)
  unfold goB at hq
  refine ⟨hin, fun z => ⟨hin, ?_⟩, fun z => ?_⟩
  · refine xG.call (F := xRun tb_T_packageOf 3) rfl rfl (p_T_packageOf ?_)
    refine xG.go [15] 60 ?_
    show (((lg_cmp (pkg (B 2 c)) fr) = 0 → (((1 : Int32) = (0 : Int32) ∨ (1 : Int32) = 1) ∧ Q (.inl (some (.int (1 : Int32)))) (HX I A B) 0)) ∧ (¬ (lg_cmp (pkg (B 2 c)) fr) = 0 → (((0 : Int32) = (0 : Int32) ∨ (0 : Int32) = 1) ∧ Q (.inl (some (.int (0 : Int32)))) (HX I A B) 0)))
    refine ⟨fun w => ?_, fun w => ?_⟩
    · rw [decide_eq_true ⟨z, (lg_cmp_eq _ _).mp w⟩] at hq
      exact ⟨Or.inr rfl, hq⟩
    · rw [decide_eq_false (fun q => w ((lg_cmp_eq _ _).mpr q.2))] at hq
      exact ⟨Or.inl rfl, hq⟩
  · rw [decide_eq_false (fun q => z q.1)] at hq
    exact ⟨Or.inl rfl, hq⟩
def fitB (A : Nat → Nat → Int32) (B : Nat → Nat → Int64) (fr to : Int64) : Nat → Nat → Bool
  | 0, _ => true
  | k + 1, c => if goB A B fr c = true ∧ inP (B 2 c) to = 0 then false else fitB A B fr to k (c + 1)
theorem p_S_fits_l {I : Nat → Int32} {A : Nat → Nat → Int32} {B : Nat → Nat → Int64} {Q : xQ} {n : Nat} {fr to : Int64} (h8 : n ≤ 8) (e0 : I 0 = nI n) : ∀ (k c : Nat), c + k = n → Q (.inl (some (.int (bI (fitB A B fr to k c))))) (HX I A B) 0 → xG tb_S_fitsPackage Q (3, [some (.ref 1), some (.long fr), none, some (.long to), none, some (.int (nI c))], [], (HX I A B), 0)
  | 0, c, e, hq => by
    refine xG.go [3, 16, 30] 60 ?_
    show (((I 0) ≤ (nI c) → (((1 : Int32) = (0 : Int32) ∨ (1 : Int32) = 1) ∧ Q (.inl (some (.int (1 : Int32)))) (HX I A B) 0)) ∧ (¬ (I 0) ≤ (nI c) → xG tb_S_fitsPackage Q (16, [some (.ref 1), some (.long fr), none, some (.long to), none, some (.int (nI c))], [.long fr, .int (nI c), .ref 1], (HX I A B), 0)))
    rw [e0]
    exact br_y (nI_le (by omega) (by omega)) ⟨Or.inr rfl, hq⟩
  | k + 1, c, e, hq => by
    refine xG.go [3, 16, 30] 60 ?_
    show (((I 0) ≤ (nI c) → (((1 : Int32) = (0 : Int32) ∨ (1 : Int32) = 1) ∧ Q (.inl (some (.int (1 : Int32)))) (HX I A B) 0)) ∧ (¬ (I 0) ≤ (nI c) → xG tb_S_fitsPackage Q (16, [some (.ref 1), some (.long fr), none, some (.long to), none, some (.int (nI c))], [.long fr, .int (nI c), .ref 1], (HX I A B), 0)))
    rw [e0]
    refine br_n (nI_ge (by omega) (by omega)) ?_
    refine xG.callV (F := xRun tb_S_goesWithPackage 4) (a := 1) rfl rfl rfl rfl (p_S_goesWithPackage (by omega) ?_)
    refine xG.go [3, 16, 30] 60 ?_
    show (((bI (goB A B fr c)) = 0 → xG tb_S_fitsPackage Q (3, [some (.ref 1), some (.long fr), none, some (.long to), none, some (.int ((nI c) + (1 : Int32)))], [], (HX I A B), 0)) ∧ (¬ (bI (goB A B fr c)) = 0 → (vp_in (nI c) 8 ∧ xG tb_S_fitsPackage Q (30, [some (.ref 1), some (.long fr), none, some (.long to), none, some (.int (nI c))], [.long to, .long ((B 2) (nI c).toNatClampNeg)], (HX I A B), 0))))
    rw [nI_1, nI_clamp (by omega)]
    unfold fitB at hq
    cases hg : goB A B fr c with
    | false =>
      rw [if_neg (fun q => by rw [hg] at q; cases q.1)] at hq
      exact br_y rfl (p_S_fits_l h8 e0 k (c + 1) (by omega) hq)
    | true =>
      refine br_n (by decide) ⟨vp_in_nI (by omega) (by omega), ?_⟩
      refine xG.call (F := xRun tb_T_inPackage 7) rfl rfl (p_T_inPackage ?_)
      refine xG.go [3, 16, 30] 60 ?_
      show (((lg_cmp (inP (B 2 c) to) (0 : Int64)) = 0 → (((0 : Int32) = (0 : Int32) ∨ (0 : Int32) = 1) ∧ Q (.inl (some (.int (0 : Int32)))) (HX I A B) 0)) ∧ (¬ (lg_cmp (inP (B 2 c) to) (0 : Int64)) = 0 → xG tb_S_fitsPackage Q (3, [some (.ref 1), some (.long fr), none, some (.long to), none, some (.int ((nI c) + (1 : Int32)))], [], (HX I A B), 0)))
      rw [nI_1]
      refine ⟨fun w => ?_, fun w => ?_⟩
      · rw [if_pos ⟨hg, (lg_cmp_eq _ _).mp w⟩] at hq
        exact ⟨Or.inl rfl, hq⟩
      · rw [if_neg (fun q => w ((lg_cmp_eq _ _).mpr q.2))] at hq
        exact p_S_fits_l h8 e0 k (c + 1) (by omega) hq
theorem p_S_fitsPackage {I : Nat → Int32} {A : Nat → Nat → Int32} {B : Nat → Nat → Int64} {Q : xQ} {n : Nat} {fr to : Int64} (h8 : n ≤ 8) (e0 : I 0 = nI n) (hq : Q (.inl (some (.int (bI (fitB A B fr to n 0))))) (HX I A B) 0) : xRun tb_S_fitsPackage 6 [.ref 1, .long fr, .long to] (HX I A B) Q := by
  refine ⟨Nat.le_of_ble_eq_true rfl, ?_⟩
  refine xG.go [3, 16, 30] 20 ?_
  show xG tb_S_fitsPackage Q (3, [some (.ref 1), some (.long fr), none, some (.long to), none, some (.int (nI 0))], [], (HX I A B), 0)
  exact p_S_fits_l h8 e0 n 0 (Nat.zero_add n) hq
/-- how many of them go -/
def cgo (P : Nat → Bool) : Nat → Nat → Nat
  | 0, _ => 0
  | k + 1, c => (if P c = true then 1 else 0) + cgo P k (c + 1)
/-- the row with new names for those that go -/
def rnM (P : Nat → Bool) (g f : Nat → Int64) (c k : Nat) : Nat → Int64 := fun j => if c ≤ j ∧ j < c + k ∧ P j = true then g j else f j
theorem rnM_0 {P : Nat → Bool} {g f : Nat → Int64} {c : Nat} : rnM P g f c 0 = f := by
  funext j
  exact if_neg (by omega)
theorem rnM_s {P : Nat → Bool} {g f : Nat → Int64} {c k : Nat} : rnM P g (if P c = true then vp_updL f c (g c) else f) (c + 1) k = rnM P g f c (k + 1) := by
  funext j
  unfold rnM
  by_cases w : j = c
  · subst w
    rw [if_neg (by omega)]
    by_cases z : P j = true
    · rw [if_pos z, if_pos ⟨by omega, by omega, z⟩, pk_uLs]
    · rw [if_neg z, if_neg (fun q => z q.2.2)]
  · have e : (if P c = true then vp_updL f c (g c) else f) j = f j := by
      split
      · exact pk_uLn w
      · rfl
    rw [e]
    by_cases q : c + 1 ≤ j ∧ j < c + 1 + k ∧ P j = true
    · rw [if_pos q, if_pos ⟨by omega, by omega, q.2.2⟩]
    · rw [if_neg q, if_neg (fun p => q ⟨by omega, by omega, p.2.2⟩)]
theorem p_S_rename_l {I : Nat → Int32} {A : Nat → Nat → Int32} {B : Nat → Nat → Int64} {Q : xQ} {n : Nat} {fr to : Int64} (h8 : n ≤ 8) (e0 : I 0 = nI n) : ∀ (k c r : Nat) (f : Nat → Int64), c + k = n → Q (.inl (some (.int (nI (r + cgo (goB A B fr) k c))))) (HX I A (va_up B 3 (rnM (goB A B fr) (fun j => inP (B 2 j) to) f c k))) 0 → xG tb_S_renamePackage Q (6, [some (.ref 1), some (.long fr), none, some (.long to), none, some (.int (nI r)), some (.int (nI c))], [], HX I A (va_up B 3 f), 0)
  | 0, c, r, f, e, hq => by
    refine xG.go [6, 19, 39] 60 ?_
    show (((I 0) ≤ (nI c) → Q (.inl (some (.int (nI r)))) (HX I A (va_up B 3 f)) 0) ∧ (¬ (I 0) ≤ (nI c) → xG tb_S_renamePackage Q (19, [some (.ref 1), some (.long fr), none, some (.long to), none, some (.int (nI r)), some (.int (nI c))], [.long fr, .int (nI c), .ref 1], (HX I A (va_up B 3 f)), 0)))
    rw [e0]
    rw [rnM_0] at hq
    exact br_y (nI_le (by omega) (by omega)) hq
  | k + 1, c, r, f, e, hq => by
    refine xG.go [6, 19, 39] 60 ?_
    show (((I 0) ≤ (nI c) → Q (.inl (some (.int (nI r)))) (HX I A (va_up B 3 f)) 0) ∧ (¬ (I 0) ≤ (nI c) → xG tb_S_renamePackage Q (19, [some (.ref 1), some (.long fr), none, some (.long to), none, some (.int (nI r)), some (.int (nI c))], [.long fr, .int (nI c), .ref 1], (HX I A (va_up B 3 f)), 0)))
    rw [e0]
    refine br_n (nI_ge (by omega) (by omega)) ?_
    refine xG.callV (F := xRun tb_S_goesWithPackage 4) (a := 1) rfl rfl rfl rfl (p_S_goesWithPackage (B := va_up B 3 f) (by omega) ?_)
    rw [← rnM_s] at hq
    unfold cgo at hq
    rw [show goB A (va_up B 3 f) fr c = goB A B fr c from rfl]
    refine xG.go [6, 19, 39] 60 ?_
    show (((bI (goB A B fr c)) = 0 → xG tb_S_renamePackage Q (6, [some (.ref 1), some (.long fr), none, some (.long to), none, some (.int (nI r)), some (.int ((nI c) + (1 : Int32)))], [], (HX I A (va_up B 3 f)), 0)) ∧ (¬ (bI (goB A B fr c)) = 0 → (vp_in (nI c) 8 ∧ xG tb_S_renamePackage Q (39, [some (.ref 1), some (.long fr), none, some (.long to), none, some (.int (nI r)), some (.int (nI c))], [.long to, .long ((B 2) (nI c).toNatClampNeg), .int (nI c), .ref 3], (HX I A (va_up B 3 f)), 0))))
    rw [nI_1, nI_clamp (by omega)]
    have hin : vp_in (nI c) 8 := vp_in_nI (by omega) (by omega)
    cases hg : goB A B fr c with
    | false =>
      rw [hg, if_neg (by decide), if_neg (by decide), Nat.zero_add] at hq
      exact br_y rfl (p_S_rename_l h8 e0 k (c + 1) r f (by omega) hq)
    | true =>
      rw [hg, if_pos rfl, if_pos rfl, ← Nat.add_assoc] at hq
      refine br_n (by decide) ⟨hin, ?_⟩
      refine xG.call (F := xRun tb_T_inPackage 7) rfl rfl (p_T_inPackage ?_)
      refine xG.go [6, 19, 39] 60 ?_
      show (vp_in (nI c) 8 ∧ xG tb_S_renamePackage Q (6, [some (.ref 1), some (.long fr), none, some (.long to), none, some (.int ((nI r) + (1 : Int32))), some (.int ((nI c) + (1 : Int32)))], [], (HX I A (va_up B 3 (vp_updL f (nI c).toNatClampNeg (inP (B 2 c) to)))), 0))
      rw [nI_1, nI_1, nI_clamp (by omega)]
      exact ⟨hin, p_S_rename_l h8 e0 k (c + 1) (r + 1) _ (by omega) hq⟩
def rpB (A : Nat → Nat → Int32) (B : Nat → Nat → Int64) (fr to : Int64) (n : Nat) : Nat → Nat → Int64 := va_up B 3 (rnM (goB A B fr) (fun j => inP (B 2 j) to) (B 3) 0 n)
theorem p_S_renamePackage {I : Nat → Int32} {A : Nat → Nat → Int32} {B : Nat → Nat → Int64} {Q : xQ} {n : Nat} {fr to : Int64} (h8 : n ≤ 8) (e0 : I 0 = nI n) (hq : Q (.inl (some (.int (nI (cgo (goB A B fr) n 0))))) (HX I A (rpB A B fr to n)) 0) : xRun tb_S_renamePackage 7 [.ref 1, .long fr, .long to] (HX I A B) Q := by
  refine ⟨Nat.le_of_ble_eq_true rfl, ?_⟩
  refine xG.go [6, 19, 39] 20 ?_
  show xG tb_S_renamePackage Q (6, [some (.ref 1), some (.long fr), none, some (.long to), none, some (.int (nI 0)), some (.int (nI 0))], [], HX I A (va_up B 3 (B 3)), 0)
  refine p_S_rename_l h8 e0 n 0 0 (B 3) (Nat.zero_add n) ?_
  rw [Nat.zero_add]
  exact hq
theorem p_N_movePackage {I : Nat → Int32} {A : Nat → Nat → Int32} {B : Nat → Nat → Int64} {Q : xQ} {n : Nat} {fr to : Int64} (h8 : n ≤ 8) (e0 : I 0 = nI n) (h1 : ¬ (isPk fr = true ∧ isPk to = true ∧ fitB A B fr to n 0 = true) → Q (.inr 0) (HX I A B) 1) (h0 : isPk fr = true ∧ isPk to = true ∧ fitB A B fr to n 0 = true → Q (.inl (some (.int (nI (cgo (goB A B fr) n 0))))) (HX I A (rpB A B fr to n)) 0) : xRun tb_N_movePackage 5 [.ref 0, .long fr, .long to] (HX I A B) Q := by
  refine ⟨Nat.le_of_ble_eq_true rfl, ?_⟩
  refine xG.go [1, 8, 20, 42] 60 ?_
  show xG tb_N_movePackage Q (1, [some (.ref 0), some (.long fr), none, some (.long to), none], [.long fr], (HX I A B), 0)
  refine xG.call (F := xRun tb_T_isPackage 2) rfl rfl (p_T_isPackage ?_)
  refine xG.go [1, 8, 20, 42] 60 ?_
  show (((bI (isPk fr)) = 0 → Q (.inr 0) (HX I A B) 1) ∧ (¬ (bI (isPk fr)) = 0 → xG tb_N_movePackage Q (8, [some (.ref 0), some (.long fr), none, some (.long to), none], [.long to], (HX I A B), 0)))
  cases hf : isPk fr with
  | false => exact br_y rfl (h1 (fun q => by rw [hf] at q; cases q.1))
  | true =>
    refine br_n (by decide) ?_
    refine xG.call (F := xRun tb_T_isPackage 2) rfl rfl (p_T_isPackage ?_)
    refine xG.go [1, 8, 20, 42] 60 ?_
    show (((bI (isPk to)) = 0 → Q (.inr 0) (HX I A B) 1) ∧ (¬ (bI (isPk to)) = 0 → xG tb_N_movePackage Q (20, [some (.ref 0), some (.long fr), none, some (.long to), none], [.long to, .long fr, .ref 1], (HX I A B), 0)))
    cases ht : isPk to with
    | false => exact br_y rfl (h1 (fun q => by rw [ht] at q; cases q.2.1))
    | true =>
      refine br_n (by decide) ?_
      refine xG.callV (F := xRun tb_S_fitsPackage 6) (a := 1) rfl rfl rfl rfl (p_S_fitsPackage h8 e0 ?_)
      refine xG.go [1, 8, 20, 42] 60 ?_
      show (((bI (fitB A B fr to n 0)) = 0 → Q (.inr 0) (HX I A B) 1) ∧ (¬ (bI (fitB A B fr to n 0)) = 0 → xG tb_N_movePackage Q (42, [some (.ref 0), some (.long fr), none, some (.long to), none], [.long to, .long fr, .ref 1], (HX I A B), 0)))
      cases hb : fitB A B fr to n 0 with
      | false => exact br_y rfl (h1 (fun q => by rw [hb] at q; cases q.2.2))
      | true =>
        refine br_n (by decide) ?_
        have hy := h0 ⟨hf, ht, hb⟩
        refine xG.callV (F := xRun tb_S_renamePackage 7) (a := 1) rfl rfl rfl rfl (p_S_renamePackage h8 e0 ?_)
        refine xG.go [1, 8, 20, 42] 30 ?_
        exact hy
theorem p_L_movePackage {I : Nat → Int32} {A : Nat → Nat → Int32} {B : Nat → Nat → Int64} {Q : xQ} {n : Nat} {fr to : Int64} (h8 : n ≤ 8) (e0 : I 0 = nI n) (h1 : ¬ (isPk fr = true ∧ isPk to = true ∧ fitB A B fr to n 0 = true) → Q (.inl (some (.int 1))) (HX I A B) 1) (h0 : isPk fr = true ∧ isPk to = true ∧ fitB A B fr to n 0 = true → Q (.inl (some (.int 0))) (HX I A (va_up (rpB A B fr to n) 41 (vp_updL (B 41) 0 (nI (cgo (goB A B fr) n 0)).toInt64))) 0) : xRun tb_L_movePackage 7 [.ref 0, .long fr, .long to, .ref 41] (HX I A B) Q := by
  refine ⟨Nat.le_of_ble_eq_true rfl, ?_⟩
  refine xG.go [6] 60 ?_
  show xG tb_L_movePackage Q (6, [some (.ref 0), some (.long fr), none, some (.long to), none, some (.ref 41), none], [.long to, .long fr, .ref 0, .int (0 : Int32), .ref 41], (HX I A B), 0)
  refine xG.callH (F := xRun tb_N_movePackage 5) (a := 0) rfl rfl rfl rfl (p_N_movePackage h8 e0 (fun z => h1 z) (fun z => ?_))
  have hy := h0 z
  generalize nI (cgo (goB A B fr) n 0) = v at hy ⊢
  refine xG.go [6] 30 ?_
  exact ⟨vp_in_nI (n := 0) (by omega) (by omega), hy⟩
