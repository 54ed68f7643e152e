-- THE LAW's LOOP, over any invariant V of class and reference, out of its sixteen cases
theorem xG.callP {tb : xT} {Q : xQ} {pc np rc rk n : Nat} {l : xL} {st : List Value} {h : xH} {F : xP} (ht : xlk tb pc = some (o_callP F np rc rk)) (hn : n + rk ≤ rc) (hb : (Nat.ble np st.length && Nat.ble (xcs (st.drop np)) 8) = true)
    (hF : F (st.take np).reverse h (fun r h' n' => match r with
      | .inl none => xG tb Q (pc + 3, l, st.drop np, h', n + n')
      | .inl (some v) => xG tb Q (pc + 3, l, v :: st.drop np, h', n + n')
      | .inr X => Q (.inr X) h' (n + n'))) : xG tb Q (pc, l, st, h, n) := by
  refine xG.step ?_
  unfold xStep
  rw [ht]
  show n + rk ≤ rc ∧ (bif (Nat.ble np st.length && Nat.ble (xcs (st.drop np)) 8) then _ else False)
  rw [hb]
  exact ⟨hn, hF⟩
theorem xG.callVP {tb : xT} {Q : xQ} {pc ci np rc rk n a : Nat} {l : xL} {st r : List Value} {h : xH} {F : xP} {fs : List Value} (ht : xlk tb pc = some (o_callVP F ci np rc rk)) (hd : st.drop np = .ref a :: r) (ha : h[a]? = some (.inr (ci, fs))) (hn : n + rk ≤ rc) (hb : (Nat.ble (np + 1) st.length && Nat.ble (xcs (st.drop (np + 1))) 8) = true)
    (hF : F (st.take (np + 1)).reverse h (fun r h' n' => match r with
      | .inl none => xG tb Q (pc + 3, l, st.drop (np + 1), h', n + n')
      | .inl (some v) => xG tb Q (pc + 3, l, v :: st.drop (np + 1), h', n + n')
      | .inr X => Q (.inr X) h' (n + n'))) : xG tb Q (pc, l, st, h, n) := by
  refine xG.step ?_
  unfold xStep
  rw [ht]
  show (match st.drop np with | .ref a :: _ => (match h[a]? with | some (.inr (cj, _)) => bif Nat.beq cj ci then o_callP F (np + 1) rc rk (pc, l, st, h, n) (xG tb Q) Q else False | _ => False) | _ => False)
  rw [hd]
  show (match h[a]? with | some (.inr (cj, _)) => bif Nat.beq cj ci then o_callP F (np + 1) rc rk (pc, l, st, h, n) (xG tb Q) Q else False | _ => False)
  rw [ha]
  show (bif Nat.beq ci ci then o_callP F (np + 1) rc rk (pc, l, st, h, n) (xG tb Q) Q else False)
  rw [Nat.beq_refl]
  show n + rk ≤ rc ∧ (bif (Nat.ble (np + 1) st.length && Nat.ble (xcs (st.drop (np + 1))) 8) then _ else False)
  rw [hb]
  exact ⟨hn, hF⟩
theorem xG.callH {tb : xT} {Q : xQ} {pc ci np rc rk n a : Nat} {l : xL} {st r : List Value} {h : xH} {F : xP} {fs : List Value} {hs : Nat → Option Int32} (ht : xlk tb pc = some (o_callH F ci np rc rk hs)) (hd : st.drop np = .ref a :: r) (ha : h[a]? = some (.inr (ci, fs))) (hb : (Nat.ble (np + 1) st.length && (Nat.ble (xcs (st.drop (np + 1))) 8 && Nat.ble (n + rk) rc)) = true)
    (hF : F (st.take (np + 1)).reverse h (fun r h' n' => match r with
      | .inl none => xG tb Q (pc + 3, l, st.drop (np + 1), h', n + n')
      | .inl (some v) => xG tb Q (pc + 3, l, v :: st.drop (np + 1), h', n + n')
      | .inr Z => match hs Z with
        | some v => Q (.inl (some (.int v))) h' (n + n')
        | none => False)) : xG tb Q (pc, l, st, h, n) := by
  refine xG.step ?_
  unfold xStep
  rw [ht]
  show o_callH F ci np rc rk hs (pc, l, st, h, n) (xG tb Q) Q
  unfold o_callH
  show (match st.drop np with | .ref a :: _ => (match h[a]? with | some (.inr (cj, _)) => bif Nat.beq cj ci && (Nat.ble (np + 1) st.length && (Nat.ble (xcs (st.drop (np + 1))) 8 && Nat.ble (n + rk) rc)) then _ else False | _ => False) | _ => False)
  rw [hd]
  show (match h[a]? with | some (.inr (cj, _)) => bif Nat.beq cj ci && (Nat.ble (np + 1) st.length && (Nat.ble (xcs (st.drop (np + 1))) 8 && Nat.ble (n + rk) rc)) then _ else False | _ => False)
  rw [ha]
  show (bif Nat.beq ci ci && (Nat.ble (np + 1) st.length && (Nat.ble (xcs (st.drop (np + 1))) 8 && Nat.ble (n + rk) rc)) then _ else False)
  rw [Nat.beq_refl, hb]
  exact hF
def lwts : List Nat := [120, 248, 422, 502, 634, 746, 759, 803, 816, 829, 912, 1007, 1151, 1207, 1263, 1311]
/-- what a case of the law owes: from its first step to the loop's end, the invariant kept, one exception at most -/
def xCase (V : (Nat → Int32) → (Nat → Nat → Int32) → (Nat → Nat → Int64) → Prop) (L : Nat) (xs : Nat → Int32) (pc : Nat) : Prop :=
  ∀ (I : Nat → Int32) (A : Nat → Nat → Int32) (B : Nat → Nat → Int64) (i n : Nat) (a b c : Option Value), V I A B → i + 7 ≤ L → L ≤ 3584 → n + 1 ≤ 512 →
    (∀ (I' : Nat → Int32) (A' : Nat → Nat → Int32) (B' : Nat → Nat → Int64) (n' : Nat) (a' b' c' : Option Value), V I' A' B' → n' ≤ n + 1 → xG (tb_law L xs) xQL (1355, xloc (nI i) a' b' c', [], HX I' A' B', n')) →
    xG (tb_law L xs) xQL (pc, xloc (nI i) a b c, [], HX I A B, n)
set_option maxRecDepth 100000 in
theorem law_loop {V : (Nat → Int32) → (Nat → Nat → Int32) → (Nat → Nat → Int64) → Prop} {L : Nat} {xs : Nat → Int32} (hL : L ≤ 3584) (hc : ∀ j, j < 16 → xCase V L xs (lwts.getD j 1355)) :
    ∀ (r j : Nat) (I : Nat → Int32) (A : Nat → Nat → Int32) (B : Nat → Nat → Int64) (n : Nat) (a b c : Option Value), L < 7 * (j + r) + 7 → 7 * j ≤ 3584 → n ≤ j → V I A B → xG (tb_law L xs) xQL (23, xloc (nI (7 * j)) a b c, [], HX I A B, n) := by
  intro r
  induction r with
  | zero =>
    intro j I A B n a b c h1 h2 h3 hV
    refine xG.go [23, 40, 164, 212, 218, 315, 386, 392, 451, 485, 489, 548, 598, 604, 670, 710, 716, 747, 751, 761, 767, 773, 804, 808, 817, 821, 851, 877, 883, 940, 972, 978, 1059, 1115, 1121, 1159, 1171, 1177, 1215, 1227, 1233, 1276, 1294, 1298, 1313, 1319, 1325, 1355] 60 ?_
    show ((((Int32.ofNat L) - (7 : Int32)) < (nI (7 * j)) → (((1 : Int32) = (0 : Int32) ∨ (1 : Int32) = 1) ∧ xQL (.inl (some (.int (1 : Int32)))) (HX I A B) n)) ∧ (¬ ((Int32.ofNat L) - (7 : Int32)) < (nI (7 * j)) → (vp_in (nI (7 * j)) L ∧ xG (tb_law L xs) xQL (40, [some (.ref 99), some (.ref 0), some (.ref 24), some (.ref 41), some (.int (nI (7 * j))), a, b, c], [.int ((xs (nI (7 * j)).toNatClampNeg) &&& (15 : Int32))], (HX I A B), n))))
    have h4 : (Int32.ofNat L) - (7 : Int32) < nI (7 * j) := by
      rw [Int32.lt_iff_toInt_lt, nI_toInt (by omega)]
      have := pk_sub_toInt (a := L) (b := 7) (by omega) (by omega)
      show ((nI L) - (nI 7)).toInt < _
      rw [this]; omega
    refine ⟨fun _ => ⟨Or.inr rfl, rfl, by omega⟩, fun z => absurd h4 z⟩
  | succ r ih =>
    intro j I A B n a b c h1 h2 h3 hV
    refine xG.go [23, 40, 164, 212, 218, 315, 386, 392, 451, 485, 489, 548, 598, 604, 670, 710, 716, 747, 751, 761, 767, 773, 804, 808, 817, 821, 851, 877, 883, 940, 972, 978, 1059, 1115, 1121, 1159, 1171, 1177, 1215, 1227, 1233, 1276, 1294, 1298, 1313, 1319, 1325, 1355] 60 ?_
    show ((((Int32.ofNat L) - (7 : Int32)) < (nI (7 * j)) → (((1 : Int32) = (0 : Int32) ∨ (1 : Int32) = 1) ∧ xQL (.inl (some (.int (1 : Int32)))) (HX I A B) n)) ∧ (¬ ((Int32.ofNat L) - (7 : Int32)) < (nI (7 * j)) → (vp_in (nI (7 * j)) L ∧ xG (tb_law L xs) xQL (40, [some (.ref 99), some (.ref 0), some (.ref 24), some (.ref 41), some (.int (nI (7 * j))), a, b, c], [.int ((xs (nI (7 * j)).toNatClampNeg) &&& (15 : Int32))], (HX I A B), n))))
    have e4 : ((Int32.ofNat L) - (7 : Int32)).toInt = (L : Int) - 7 := pk_sub_toInt (a := L) (b := 7) (by omega) (by omega)
    refine ⟨fun _ => ⟨Or.inr rfl, rfl, by omega⟩, fun z => ?_⟩
    have h5 : 7 * j + 7 ≤ L := by
      rw [Int32.lt_iff_toInt_lt, nI_toInt (by omega), e4] at z
      omega
    refine ⟨nI_in (by omega) (by omega), ?_⟩
    refine xG.step ?_
    obtain ⟨q, hq, e⟩ := pk_andE (xs (nI (7 * j)).toNatClampNeg) (m := 15) 4 (by decide)
    show ∃ k : Nat, k < lwts.length ∧ (xs (nI (7 * j)).toNatClampNeg) &&& (15 : Int32) = Int32.ofNat k ∧ xG (tb_law L xs) xQL (lwts.getD k 1355, xloc (nI (7 * j)) a b c, [], HX I A B, n)
    refine ⟨q, hq, e, ?_⟩
    refine hc q hq I A B (7 * j) n a b c hV h5 hL (by omega) (fun I' A' B' n' a' b' c' hV' hn' => ?_)
    refine xG.go [23, 40, 164, 212, 218, 315, 386, 392, 451, 485, 489, 548, 598, 604, 670, 710, 716, 747, 751, 761, 767, 773, 804, 808, 817, 821, 851, 877, 883, 940, 972, 978, 1059, 1115, 1121, 1159, 1171, 1177, 1215, 1227, 1233, 1276, 1294, 1298, 1313, 1319, 1325] 60 ?_
    show xG (tb_law L xs) xQL (23, xloc ((nI (7 * j)) + 7) a' b' c', [], HX I' A' B', n')
    have e7 : (nI (7 * j)) + 7 = nI (7 * (j + 1)) := by
      show nI (7 * j) + nI 7 = _
      rw [nI_add]
      rfl
    rw [e7]
    exact ih (j + 1) I' A' B' n' a' b' c' (by omega) (by omega) (by omega) hV'
theorem law_of_cases {V : (Nat → Int32) → (Nat → Nat → Int32) → (Nat → Nat → Int64) → Prop} {L : Nat} {xs : Nat → Int32} (hL : L ≤ 3584) (h0 : V (fun _ => 0) (fun _ _ => 0) (fun _ _ => 0)) (hc : ∀ j, j < 16 → xCase V L xs (lwts.getD j 1355)) : xG (tb_law L xs) xQL (23, xloc 0 none none none, [], HX (fun _ => 0) (fun _ _ => 0) (fun _ _ => 0), 0) :=
  law_loop hL hc 512 0 _ _ _ 0 none none none (by omega) (by omega) (Nat.le_refl 0) h0
