-- the reference's reader: load
theorem mn_in {g : Nat → Nat} {sz a : Nat} (h : ¬ mn g sz a < 0) : a < sz ∧ mn g sz a = nI (g a) := by
  unfold mn at h ⊢
  by_cases w : a < sz
  · rw [if_pos w]; exact ⟨w, rfl⟩
  · rw [if_neg w] at h
    exact absurd (by decide) h
theorem lsN_neg {f : Nat → Int64} {t : Int64} {n : Nat} (hn : n ≤ 8) : lsN f t n 0 (-1) < 0 → ∀ j, j < n → ¬ f j = t := by
  have key : ∀ (k c : Nat) (r : Int32), c + k ≤ 8 → lsN f t k c r < 0 → r < 0 ∧ ∀ j, c ≤ j → j < c + k → ¬ f j = t := fun k => by
    induction k with
    | zero => exact fun c r _ h => ⟨h, fun j h1 h2 => by omega⟩
    | succ k ih =>
      intro c r hc h
      unfold lsN at h
      obtain ⟨h1, h2⟩ := ih (c + 1) _ (by omega) h
      by_cases w : f c = t
      · rw [if_pos w] at h1
        exact absurd h1 (nI_pos (by omega))
      · rw [if_neg w] at h1
        refine ⟨h1, fun j j1 j2 => ?_⟩
        by_cases e : j = c
        · rw [e]; exact w
        · exact h2 j (by omega) (by omega)
  exact fun h j hj => (key n 0 (-1) (by omega) h).2 j (by omega) (by omega)
set_option maxRecDepth 100000 in
theorem p_M_readClass {I : Nat → Int32} {A : Nat → Nat → Int32} {B : Nat → Nat → Int64} {Q : xQ} {sz n : Nat} {g : Nat → Nat} (h : MY I A sz g) (hn : n < 8) (e10 : I 10 = nI n) (hN : nOk (B 25) n)
    (h0 : ∀ I' A' B', KM I A B n I' A' B' → (∀ As Bs m, vK (B 25) n As Bs m → ¬ TF g sz (B 25) n As Bs m) → Q (.inl (some (.int 0))) (HX I' A' B') 0)
    (h1 : ∀ t s b I' A' B', isCN t = true → (∀ j, j < n → ¬ B 25 j = t) → (s = -1 ∨ ∃ p, p < n ∧ s = nI p) → (b = 0 ∨ b = 1) → PM I A B n t s b (g (sp g (g 1) + 3)) I' A' B' → SPm g sz (B 25) n t s b (g (sp g (g 1) + 3)) A' B' → Q (.inl (some (.int 1))) (HX I' A' B') 0) : xRun tb_M_readClass 8 [.ref 24] (HX I A B) Q := by
  have hg := h.2.2.1
  have hz := h.2.1
  refine ⟨Nat.le_of_ble_eq_true rfl, ?_⟩
  refine xG.go [1, 11, 14, 19, 24, 30, 46, 49, 56, 64, 79, 107, 131, 137] 60 ?_
  show xG tb_M_readClass Q (1, [some (.ref 24), none, none, none, none, none, none, none], [.ref 24], (HX I A B), 0)
  have km : ∀ {I' A'}, (∀ j, ¬ (j = 13 ∨ j = 15) → I' j = I j) → (∀ r, ¬ (r = 37 ∨ r = 38) → A' r = A r) → KM I A B n I' A' B := fun k1 k2 => ⟨k1, fun r hr => k2 r (fun q => hr (by omega)), fun _ _ => rfl, fun x _ => ⟨by rw [k2 27 (by omega)], by rw [k2 28 (by omega)], by rw [k2 29 (by omega)], rfl, rfl⟩, fun x _ => ⟨by rw [k2 33 (by omega)], rfl, rfl, rfl⟩⟩
  refine xG.callV (F := xRun tb_M_readPool 4) (a := 24) rfl rfl rfl rfl (p_M_readPool h (fun w I' A' k1 k2 => ?_) (fun c1 hT I1 A1 k1 k2 hM e15 => ?_))
  · refine xG.go [1, 11, 14, 19, 24, 30, 46, 49, 56, 64, 131, 137] 20 ?_
    show ((0 : Int32) = 0 → _) ∧ _
    exact br_y rfl ⟨Or.inl rfl, h0 _ _ _ (km k1 k2) (fun As Bs m v tf => w tf.2.1)⟩
  · have hsp := sp_le hg (g 1)
    have hMY : MY I1 A1 sz g := ⟨(k1 11 (by omega)).trans h.1, hz, hg, fun i hi => by rw [k2 35 (by omega)]; exact h.2.2.2 i hi⟩
    have e10' : I1 10 = nI n := (k1 10 (by omega)).trans e10
    generalize ha : sp g (g 1) = a at *
    refine xG.go [1, 11, 14, 19, 24, 30, 46, 49, 56, 64, 79, 107, 131, 137] 60 ?_
    show (((1 : Int32) = 0 → (((0 : Int32) = (0 : Int32) ∨ (0 : Int32) = 1) ∧ Q (.inl (some (.int (0 : Int32)))) (HX I1 A1 B) 0)) ∧ (¬ (1 : Int32) = 0 → xG tb_M_readClass Q (11, [some (.ref 24), none, none, none, none, none, none, none], [.ref 24, .ref 24], (HX I1 A1 B), 0)))
    refine br_n (by decide) ?_
    refine xG.callV (F := xRun tb_M_next 1) (a := 24) rfl rfl rfl rfl (p_M_next hMY e15 (by omega) ?_)
    refine xG.callV (F := xRun tb_M_textOf 5) (a := 24) rfl rfl rfl rfl (p_M_textOf (I := va_up I1 15 (nI (a + 1))) hg hM hT (fun t htt => ?_))
    refine xG.go [1, 11, 14, 19, 24, 30, 46, 49, 56, 64, 79, 107, 131, 137] 60 ?_
    show xG tb_M_readClass Q (19, [some (.ref 24), some (.long t), none, none, none, none, none, none], [.ref 24], (HX (va_up I1 15 (nI (a + 1))) A1 B), 0)
    refine xG.callV (F := xRun tb_M_next 1) (a := 24) rfl rfl rfl rfl (p_M_next (I := va_up I1 15 (nI (a + 1))) hMY rfl (by omega) ?_)
    rw [up_up]
    generalize hx1 : mn g sz (a + 1) = x1
    refine xG.go [1, 11, 14, 19, 24, 30, 46, 49, 56, 64, 79, 107, 131, 137] 60 ?_
    show xG tb_M_readClass Q (24, [some (.ref 24), some (.long t), none, some (.int x1), none, none, none, none], [.ref 24], (HX (va_up I1 15 (nI (a + 1 + 1))) A1 B), 0)
    refine xG.callV (F := xRun tb_M_next 1) (a := 24) rfl rfl rfl rfl (p_M_next (I := va_up I1 15 (nI (a + 1 + 1))) hMY rfl (by omega) ?_)
    rw [up_up]
    generalize hx2 : mn g sz (a + 1 + 1) = x2
    refine xG.go [1, 11, 14, 19, 24, 30, 46, 49, 56, 64, 79, 107, 131, 137] 60 ?_
    show xG tb_M_readClass Q (30, [some (.ref 24), some (.long t), none, some (.int x1), some (.int x2), none, none, none], [.ref 24], (HX (va_up I1 15 (nI (a + 1 + 1 + 1))) A1 B), 0)
    refine xG.callV (F := xRun tb_M_next 1) (a := 24) rfl rfl rfl rfl (p_M_next (I := va_up I1 15 (nI (a + 1 + 1 + 1))) hMY rfl (by omega) ?_)
    rw [up_up]
    generalize hx3 : mn g sz (a + 1 + 1 + 1) = x3
    have kI : ∀ j, ¬ (j = 13 ∨ j = 15) → va_up I1 15 (nI (a + 1 + 1 + 1 + 1)) j = I j := fun j hj => (up_n (fun q => hj (by omega))).trans (k1 j hj)
    have kt : ∀ As Bs m, vK (B 25) n As Bs m → TF g sz (B 25) n As Bs m → t = Bs 2 n ∧ x2 = As 5 n ∧ x3 = nI m ∧ ((As 4 n = -1 ∧ x1 = 0) ∨ ∃ p, p < n ∧ As 4 n = nI p ∧ ¬ x1 = 0 ∧ ∃ q, 1 ≤ q ∧ q ≤ g 1 ∧ x1 = nI q ∧ txt g q = tx (B 25 p)) := fun As Bs m v tf => by
      obtain ⟨ft, pt, es⟩ := tf
      unfold FT at ft
      rw [ha] at ft es
      obtain ⟨-, ⟨f1, f2⟩, f3, f4, f5, -⟩ := ft
      have hg1 := hg (a + 1)
      refine ⟨htt _ _ (txt_pos f2 (tx_pos (okT_cn v.1))) f1 (if_pos (by omega)) f2, ?_, ?_, ?_⟩
      · rw [← hx2, ← f4]; exact if_pos (by omega)
      · rw [← hx3, ← f5]; exact if_pos (by omega)
      · have e1 : x1 = nI (g (a + 1)) := by rw [← hx1]; exact if_pos (by omega)
        rcases f3 with ⟨q1, q2⟩ | ⟨p, hp, q1, q2, q3, q4⟩
        · exact Or.inl ⟨q1, by rw [e1, q2]; rfl⟩
        · exact Or.inr ⟨p, hp, q1, by rw [e1]; exact fun z => q2 ((nI_eq (b := 0) (by omega) (by omega)).mp z), g (a + 1), by omega, q3, e1, q4⟩
    have bad : ∀ (sp7 : Int32), (∀ As Bs m, vK (B 25) n As Bs m → ¬ TF g sz (B 25) n As Bs m) → xG tb_M_readClass Q (107, [some (.ref 24), some (.long t), none, some (.int x1), some (.int x2), some (.int x3), some (.int sp7), none], [.int 0], HX (va_up I1 15 (nI (a + 1 + 1 + 1 + 1))) A1 B, 0) := fun sp7 w => by
      refine xG.go [1, 11, 14, 19, 24, 30, 46, 49, 56, 64, 131, 137] 60 ?_
      show (((0 : Int32) = 0 → (((0 : Int32) = (0 : Int32) ∨ (0 : Int32) = 1) ∧ Q (.inl (some (.int (0 : Int32)))) (HX (va_up I1 15 (nI (a + 1 + 1 + 1 + 1))) A1 B) 0)) ∧ (¬ (0 : Int32) = 0 → ((x2 = (1 : Int32) → xG tb_M_readClass Q (131, [some (.ref 24), some (.long t), none, some (.int x1), some (.int x2), some (.int x3), some (.int sp7), some (.int (0 : Int32))], [.int (1 : Int32), .int sp7, .long t, .ref 24], (HX (va_up I1 15 (nI (a + 1 + 1 + 1 + 1))) A1 B), 0)) ∧ (¬ x2 = (1 : Int32) → xG tb_M_readClass Q (131, [some (.ref 24), some (.long t), none, some (.int x1), some (.int x2), some (.int x3), some (.int sp7), some (.int (0 : Int32))], [.int (0 : Int32), .int sp7, .long t, .ref 24], (HX (va_up I1 15 (nI (a + 1 + 1 + 1 + 1))) A1 B), 0)))))
      exact br_y rfl ⟨Or.inl rfl, h0 _ _ _ (km kI k2) w⟩
    -- from the superclass on
    have main : ∀ s : Int32, (x1 = 0 → s = -1) → (s = -1 ∨ ∃ p, p < n ∧ s = nI p) → (∀ As Bs m, vK (B 25) n As Bs m → TF g sz (B 25) n As Bs m → As 4 n = s) → xG tb_M_readClass Q (52, [some (.ref 24), some (.long t), none, some (.int x1), some (.int x2), some (.int x3), none, none], [.int s], HX (va_up I1 15 (nI (a + 1 + 1 + 1 + 1))) A1 B, 0) := fun s hs0 hs1 hs2 => by
      refine xG.go [1, 11, 14, 19, 24, 30, 46, 49, 56, 64, 79, 107, 131, 137] 60 ?_
      show xG tb_M_readClass Q (56, [some (.ref 24), some (.long t), none, some (.int x1), some (.int x2), some (.int x3), some (.int s), none], [.int (0 : Int32), .long t], (HX (va_up I1 15 (nI (a + 1 + 1 + 1 + 1))) A1 B), 0)
      refine xG.call (F := xRun tb_M_isName 8) rfl rfl (p_M_isName (al := false) ?_)
      rw [mName_cn]
      refine xG.go [1, 11, 14, 19, 24, 30, 46, 49, 56, 64, 79, 107, 131, 137] 60 ?_
      show (((bI (isCN t)) = 0 → xG tb_M_readClass Q (107, [some (.ref 24), some (.long t), none, some (.int x1), some (.int x2), some (.int x3), some (.int s), none], [.int (0 : Int32)], (HX (va_up I1 15 (nI (a + 1 + 1 + 1 + 1))) A1 B), 0)) ∧ (¬ (bI (isCN t)) = 0 → xG tb_M_readClass Q (64, [some (.ref 24), some (.long t), none, some (.int x1), some (.int x2), some (.int x3), some (.int s), none], [.long t, .ref 24], (HX (va_up I1 15 (nI (a + 1 + 1 + 1 + 1))) A1 B), 0)))
      cases hc : isCN t with
      | false =>
        refine br_y rfl (bad s (fun As Bs m v tf => ?_))
        have := v.1
        rw [← (kt As Bs m v tf).1, hc] at this
        cases this
      | true =>
        refine br_n (by decide) ?_
        refine xG.callV (F := xRun tb_M_named 5) (a := 24) rfl rfl rfl rfl (p_M_named (I := va_up I1 15 (nI (a + 1 + 1 + 1 + 1))) (by omega) e10' ?_)
        have hfr := lsN_neg (f := B 25) (t := t) (n := n) (by omega)
        have hno : (∀ j, j < n → ¬ B 25 j = t) → lsN (B 25) t n 0 (-1) = -1 := fun w => lsN_no n 0 (-1) (fun j _ hj => w j (by omega))
        generalize lsN (B 25) t n 0 (-1) = v1 at hfr hno ⊢
        refine xG.go [1, 11, 14, 19, 24, 30, 46, 49, 56, 64, 79, 107, 131, 137] 60 ?_
        show ((0 ≤ v1 → xG tb_M_readClass Q (107, [some (.ref 24), some (.long t), none, some (.int x1), some (.int x2), some (.int x3), some (.int s), none], [.int (0 : Int32)], (HX (va_up I1 15 (nI (a + 1 + 1 + 1 + 1))) A1 B), 0)) ∧ (¬ 0 ≤ v1 → ((x1 = 0 → xG tb_M_readClass Q (79, [some (.ref 24), some (.long t), none, some (.int x1), some (.int x2), some (.int x3), some (.int s), none], [], (HX (va_up I1 15 (nI (a + 1 + 1 + 1 + 1))) A1 B), 0)) ∧ (¬ x1 = 0 → ((s < 0 → xG tb_M_readClass Q (107, [some (.ref 24), some (.long t), none, some (.int x1), some (.int x2), some (.int x3), some (.int s), none], [.int (0 : Int32)], (HX (va_up I1 15 (nI (a + 1 + 1 + 1 + 1))) A1 B), 0)) ∧ (¬ s < 0 → xG tb_M_readClass Q (79, [some (.ref 24), some (.long t), none, some (.int x1), some (.int x2), some (.int x3), some (.int s), none], [], (HX (va_up I1 15 (nI (a + 1 + 1 + 1 + 1))) A1 B), 0)))))))
        refine ⟨fun z => bad s (fun As Bs m v tf => ?_), fun z => ?_⟩
        · have e := hno (fun j hj q => v.2.1.2 j hj (q.trans (kt As Bs m v tf).1))
          rw [e] at z
          exact absurd z (by decide)
        · have hfr := hfr (Int32.not_le.mp z)
          have rest : xG tb_M_readClass Q (79, [some (.ref 24), some (.long t), none, some (.int x1), some (.int x2), some (.int x3), some (.int s), none], [], HX (va_up I1 15 (nI (a + 1 + 1 + 1 + 1))) A1 B, 0) := by
            refine xG.go [1, 11, 14, 19, 24, 30, 46, 49, 56, 64, 107, 131, 137] 60 ?_
            show ((x2 < 0 → xG tb_M_readClass Q (107, [some (.ref 24), some (.long t), none, some (.int x1), some (.int x2), some (.int x3), some (.int s), none], [.int (0 : Int32)], (HX (va_up I1 15 (nI (a + 1 + 1 + 1 + 1))) A1 B), 0)) ∧ (¬ x2 < 0 → (((1 : Int32) < x2 → xG tb_M_readClass Q (107, [some (.ref 24), some (.long t), none, some (.int x1), some (.int x2), some (.int x3), some (.int s), none], [.int (0 : Int32)], (HX (va_up I1 15 (nI (a + 1 + 1 + 1 + 1))) A1 B), 0)) ∧ (¬ (1 : Int32) < x2 → ((x3 < 0 → xG tb_M_readClass Q (107, [some (.ref 24), some (.long t), none, some (.int x1), some (.int x2), some (.int x3), some (.int s), none], [.int (0 : Int32)], (HX (va_up I1 15 (nI (a + 1 + 1 + 1 + 1))) A1 B), 0)) ∧ (¬ x3 < 0 → (((6 : Int32) < x3 → xG tb_M_readClass Q (107, [some (.ref 24), some (.long t), none, some (.int x1), some (.int x2), some (.int x3), some (.int s), none], [.int (0 : Int32)], (HX (va_up I1 15 (nI (a + 1 + 1 + 1 + 1))) A1 B), 0)) ∧ (¬ (6 : Int32) < x3 → xG tb_M_readClass Q (107, [some (.ref 24), some (.long t), none, some (.int x1), some (.int x2), some (.int x3), some (.int s), none], [.int (1 : Int32)], (HX (va_up I1 15 (nI (a + 1 + 1 + 1 + 1))) A1 B), 0)))))))))
            refine ⟨fun z1 => bad s (fun As Bs m v tf => ?_), fun z1 => ⟨fun z2 => bad s (fun As Bs m v tf => ?_), fun z2 => ⟨fun z3 => bad s (fun As Bs m v tf => ?_), fun z3 => ⟨fun z4 => bad s (fun As Bs m v tf => ?_), fun z4 => ?_⟩⟩⟩⟩
            · rw [(kt As Bs m v tf).2.1] at z1
              rcases v.2.2.2.1 with q | q
              · rw [q] at z1; exact absurd z1 (by decide)
              · rw [q] at z1; exact absurd z1 (by decide)
            · rw [(kt As Bs m v tf).2.1] at z2
              rcases v.2.2.2.1 with q | q
              · rw [q] at z2; exact absurd z2 (by decide)
              · rw [q] at z2; exact absurd z2 (by decide)
            · rw [(kt As Bs m v tf).2.2.1] at z3
              exact nI_pos (by have := v.2.2.2.2.1.2; omega) z3
            · rw [(kt As Bs m v tf).2.2.1] at z4
              exact nI_nlt (a := 6) (by have := v.2.2.2.2.1.2; omega) (by omega) z4
            · rw [← hx3] at z3
              obtain ⟨i3, e3⟩ := mn_in z3
              have hg3 := hg (a + 1 + 1 + 1)
              rw [← hx3, e3] at z4
              have l6 : g (a + 1 + 1 + 1) ≤ 6 := by
                rcases Nat.lt_or_ge 6 (g (a + 1 + 1 + 1)) with q | q
                · exact absurd (nI_lt (a := 6) q (by omega)) z4
                · exact q
              rw [← hx3, e3]
              have key : ∀ b, b = (if x2 = 1 then (1 : Int32) else 0) → xG tb_M_readClass Q (131, [some (.ref 24), some (.long t), none, some (.int x1), some (.int x2), some (.int (nI (g (a + 1 + 1 + 1)))), some (.int s), some (.int 1)], [.int b, .int s, .long t, .ref 24], HX (va_up I1 15 (nI (a + 1 + 1 + 1 + 1))) A1 B, 0) := fun b eb => by
                have hb : b = 0 ∨ b = 1 := by
                  rw [eb]
                  split
                  · exact Or.inr rfl
                  · exact Or.inl rfl
                refine xG.callV (F := xRun tb_M_put 5) (a := 24) rfl rfl rfl rfl (p_M_put (I := va_up I1 15 (nI (a + 1 + 1 + 1 + 1))) hn e10' hb ?_)
                refine xG.go [1, 11, 14, 19, 24, 30, 46, 49, 56, 64, 131, 137] 60 ?_
                show xG tb_M_readClass Q (137, [some (.ref 24), some (.long t), none, some (.int x1), some (.int x2), some (.int (nI (g (a + 1 + 1 + 1)))), some (.int s), some (.int (1 : Int32))], [.int (nI (g (a + 1 + 1 + 1))), .ref 24], (HX (va_up I1 15 (nI (a + 1 + 1 + 1 + 1))) (puA A1 n s b) (puB B n t)), 0)
                have hN1 : nOk (vp_updL (B 25) n t) (n + 1) := by
                  refine ⟨fun j hj => ?_, fun i j hi hj => ?_⟩
                  · by_cases q : j = n
                    · rw [q, pk_uLs]; exact okT_cn hc
                    · rw [pk_uLn q]; exact hN.1 j (by omega)
                  · by_cases q : i = n
                    · by_cases p : j = n
                      · exact fun _ => q.trans p.symm
                      · rw [q, pk_uLs, pk_uLn p]
                        exact fun z => absurd z.symm (hfr j (by omega))
                    · by_cases p : j = n
                      · rw [p, pk_uLs, pk_uLn q]
                        exact fun z => absurd z (hfr i (by omega))
                      · rw [pk_uLn q, pk_uLn p]
                        exact hN.2 i j (by omega) (by omega)
                refine xG.callV (F := xRun tb_M_readMembers 8) (a := 24) rfl rfl rfl rfl ⟨Nat.le_of_ble_eq_true rfl, ?_⟩
                refine xG.go [2, 9, 12, 18, 21, 27, 34, 43, 68, 95] 20 ?_
                show xG tb_M_readMembers _ (2, [some (.ref 24), some (.int (nI (g (a + 1 + 1 + 1)))), some (.int (nI 0)), none, none, none, none, none], [], HX (va_up I1 15 (nI (a + 1 + 1 + 1 + 1))) (puA A1 n s b) (puB B n t), 0)
                have ret : ∀ (v : Int32) I' A' B', (v = 0 ∨ v = 1) → Q (.inl (some (.int v))) (HX I' A' B') 0 → xG tb_M_readClass Q (140, [some (.ref 24), some (.long t), none, some (.int x1), some (.int x2), some (.int (nI (g (a + 1 + 1 + 1)))), some (.int s), some (.int 1)], [.int v], HX I' A' B', 0) := fun v I' A' B' hv hq => by
                  refine xG.go [1, 11, 14, 19, 24, 30, 46, 49, 56, 64, 131, 137] 60 ?_
                  show ((v = (0 : Int32) ∨ v = 1) ∧ Q (.inl (some (.int v))) (HX I' A' B') 0)
                  exact ⟨hv, hq⟩
                rw [← ha] at *
                refine p_M_rm_l (I := I) (A := A) (B := B) (n := n) (t := t) (s := s) (b := b) h hT hn e10 hN1 l6 (fun I' A' B' q1 q2 => ret 0 I' A' B' (Or.inl rfl) (h0 I' A' B' q1 q2)) (fun I' A' B' q1 q2 => ret 1 I' A' B' (Or.inr rfl) (h1 t s b I' A' B' hc hfr hs1 hb q1 q2)) (g (sp g (g 1) + 3)) 0 _ _ _ none none none none none (Nat.zero_add _) ?_ (fun As Bs m v tf => ⟨⟨(kt As Bs m v tf).1.symm, hs2 As Bs m v tf, ?_⟩, fun j hj => by omega⟩) hM rfl (Or.inr trivial)
                · refine ⟨⟨kI, fun r hr => ?_, fun r hr => ?_⟩, ⟨?_, ?_, rfl, rfl⟩, ⟨fun x hx => ?_, ?_, by omega⟩, fun x hx => ⟨?_, rfl, rfl, rfl⟩, fun j hj => by omega, fun j l hj => by omega⟩
                  · unfold puA
                    rw [up_n (fun q => hr (by omega)), up_n (fun q => hr (by omega)), up_n (fun q => hr (by omega))]
                    exact k2 r (fun q => hr (by omega))
                  · unfold puB
                    rw [up_n (fun q => hr (by omega)), up_n (fun q => hr (by omega))]
                  · show upd (A1 27) n s = _
                    rw [k2 27 (by omega)]
                  · show upd (A1 28) n b = _
                    rw [k2 28 (by omega)]
                  · show upd (A1 29) n 0 x = _
                    rw [pk_un hx, k2 29 (by omega)]
                  · show upd (A1 29) n 0 n = nI 0
                    exact pk_us
                  · show A1 33 x = A 33 x
                    rw [k2 33 (by omega)]
                · rw [eb, (kt As Bs m v tf).2.1]
                  rcases v.2.2.2.1 with q | q
                  · rw [q]; rfl
                  · rw [q]; rfl
              refine xG.go [1, 11, 14, 19, 24, 30, 46, 49, 56, 64, 131, 137] 60 ?_
              show (((1 : Int32) = 0 → (((0 : Int32) = (0 : Int32) ∨ (0 : Int32) = 1) ∧ Q (.inl (some (.int (0 : Int32)))) (HX (va_up I1 15 (nI (a + 1 + 1 + 1 + 1))) A1 B) 0)) ∧ (¬ (1 : Int32) = 0 → ((x2 = (1 : Int32) → xG tb_M_readClass Q (131, [some (.ref 24), some (.long t), none, some (.int x1), some (.int x2), some (.int (nI (g (a + 1 + 1 + 1)))), some (.int s), some (.int (1 : Int32))], [.int (1 : Int32), .int s, .long t, .ref 24], (HX (va_up I1 15 (nI (a + 1 + 1 + 1 + 1))) A1 B), 0)) ∧ (¬ x2 = (1 : Int32) → xG tb_M_readClass Q (131, [some (.ref 24), some (.long t), none, some (.int x1), some (.int x2), some (.int (nI (g (a + 1 + 1 + 1)))), some (.int s), some (.int (1 : Int32))], [.int (0 : Int32), .int s, .long t, .ref 24], (HX (va_up I1 15 (nI (a + 1 + 1 + 1 + 1))) A1 B), 0)))))
              exact br_n (by decide) ⟨fun q => key 1 (by rw [if_pos q]), fun q => key 0 (by rw [if_neg q])⟩
          refine ⟨fun z1 => rest, fun z1 => ⟨fun z2 => bad s (fun As Bs m v tf => ?_), fun z2 => rest⟩⟩
          have e4 := hs2 As Bs m v tf
          rcases (kt As Bs m v tf).2.2.2 with ⟨-, q⟩ | ⟨p, hp, q, -⟩
          · exact absurd q z1
          · rw [← e4, q] at z2
            exact absurd z2 (nI_pos (by omega))
    refine xG.go [1, 11, 14, 19, 24, 30, 46, 49, 52, 56, 64, 79, 107, 131, 137] 60 ?_
    show ((x1 = 0 → xG tb_M_readClass Q (52, [some (.ref 24), some (.long t), none, some (.int x1), some (.int x2), some (.int x3), none, none], [.int (-1 : Int32)], (HX (va_up I1 15 (nI (a + 1 + 1 + 1 + 1))) A1 B), 0)) ∧ (¬ x1 = 0 → xG tb_M_readClass Q (46, [some (.ref 24), some (.long t), none, some (.int x1), some (.int x2), some (.int x3), none, none], [.int x1, .ref 24, .ref 24], (HX (va_up I1 15 (nI (a + 1 + 1 + 1 + 1))) A1 B), 0)))
    refine ⟨fun z => main (-1) (fun _ => rfl) (Or.inl rfl) (fun As Bs m v tf => ?_), fun z => ?_⟩
    · rcases (kt As Bs m v tf).2.2.2 with ⟨q, -⟩ | ⟨p, hp, q, q2, -⟩
      · exact q
      · exact absurd z q2
    · refine xG.callV (F := xRun tb_M_textOf 5) (a := 24) rfl rfl rfl rfl (p_M_textOf (I := va_up I1 15 (nI (a + 1 + 1 + 1 + 1))) hg hM hT (fun u hu => ?_))
      refine xG.callV (F := xRun tb_M_named 5) (a := 24) rfl rfl rfl rfl (p_M_named (I := va_up I1 15 (nI (a + 1 + 1 + 1 + 1))) (by omega) e10' ?_)
      refine main _ (fun q => absurd q z) ?_ (fun As Bs m v tf => ?_)
      · exact (lsN_r (f := B 25) (t := u) n 0 (-1)).elim Or.inl (fun ⟨j, _, hj, e⟩ => Or.inr ⟨j, by omega, e⟩)
      · rcases (kt As Bs m v tf).2.2.2 with ⟨-, q⟩ | ⟨p, hp, q, q2, x, x1', x2', x3', x4'⟩
        · exact absurd q z
        · have eu : u = B 25 p := hu x _ x1' x2' x3' x4'
          rw [q]
          exact (lsN_yes eu.symm n 0 (-1) (by omega) (by omega) (fun i _ hi ei => hN.2 i p (by omega) hp (ei.trans eu))).symm
