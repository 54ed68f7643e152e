theorem clN_ls {f g : Nat → Int64} {t : Int64} {n : Nat} (hn : n ≤ 8) (hfg : ∀ c, c < n → g c = f c) (hd : ∀ c d, c < n → d < n → f c = f d → c = d) : (¬ clN f t n 0 = -1 ↔ ¬ lsN g t n 0 (-1) < 0) ∧ (clN f t n 0 = -1 → ∀ j, j < n → ¬ f j = t) := by
  by_cases q : ∃ j, j < n ∧ f j = t
  · obtain ⟨j, hj, e⟩ := q
    have e1 : clN f t n 0 = nI j := clN_yes e n 0 (by omega) (by omega) (fun i _ h2 h3 => hd i j (by omega) hj (h3.trans e.symm))
    have e2 : lsN g t n 0 (-1) = nI j := lsN_yes ((hfg j hj).trans e) n 0 (-1) (by omega) (by omega) (fun i _ h2 h3 => hd i j (by omega) hj ((hfg i (by omega)).symm.trans (h3.trans e.symm)))
    rw [e1, e2]
    have z1 : ¬ nI j < 0 := nI_pos (by omega)
    have z2 : ¬ nI j = -1 := fun w => z1 (by rw [w]; decide)
    exact ⟨⟨fun _ => z1, fun _ => z2⟩, fun w => absurd w z2⟩
  · have q' : ∀ j, j < n → ¬ f j = t := fun j hj e => q ⟨j, hj, e⟩
    have e1 : clN f t n 0 = -1 := clN_no n 0 (fun i _ h2 => q' i (by omega))
    have e2 : lsN g t n 0 (-1) = -1 := lsN_no n 0 (-1) (fun i _ h2 h3 => q' i (by omega) ((hfg i (by omega)).symm.trans h3))
    rw [e1, e2]
    exact ⟨⟨fun w => absurd rfl w, fun w => absurd (by decide) w⟩, fun _ => q'⟩
theorem j_declare : J_declare vInv := by
  intro I A B t s b hb hV
  have hV' := hV
  obtain ⟨n, mc, sz, ⟨h8, e0, e10⟩, h2, h3, h4, -⟩ := hV'
  have em : mtot B mc 0 n = chg B mc n := mtot_chg (fun c hc => (h2 c hc).2.2.2.1) (fun c hc => ⟨(h2 c hc).1.1, (h2 c hc).1.2.1⟩) (fun c k hc hk => ⟨(h3 c k hc hk).1.1, (h3 c k hc hk).1.2.1⟩) n 0 (Nat.zero_add n)
  have hM : mtot B mc 0 n < 2 ^ 31 := by
    have q1 := cntF_le (dif (B 3) (B 2)) n 0
    have q2 := cntF_le (fun m => numB mc n m && dif (B 9) (B 8) m) (8 * n) 0
    rw [em]
    unfold chg
    omega
  have hS : ∀ c, c < n → mc c ≤ 6 ∧ A 6 c = nI (mc c) := fun c hc => ⟨(h2 c hc).2.2.2.1, (h2 c hc).2.2.2.2.1⟩
  have hR : ∀ c, c < n → mc c ≤ 6 ∧ A 29 c = nI (mc c) := fun c hc => ⟨(h2 c hc).2.2.2.1, (h2 c hc).2.2.2.2.2⟩
  obtain ⟨hq1, hq2⟩ := clN_ls (t := t) h8 (fun c hc => (h2 c hc).1.1) h4
  have hst : (0 < chg B mc n ∨ 8 ≤ n ∨ ¬ clN (B 2) t n 0 = -1) ↔ (0 < mtot B mc 0 n ∨ n = 8 ∨ ¬ lsN (B 25) t n 0 (-1) < 0) := by
    rw [em]
    exact ⟨fun z => z.elim Or.inl (fun z => z.elim (fun z => Or.inr (Or.inl (by omega))) (fun z => Or.inr (Or.inr (hq1.mp z)))), fun z => z.elim Or.inl (fun z => z.elim (fun z => Or.inr (Or.inl (by omega))) (fun z => Or.inr (Or.inr (hq1.mpr z))))⟩
  cases hc : isCN t with
  | false =>
    exact ⟨1, I, A, B, 1, 0, va_up I 9 1, A, B, fun Q hq => p_L_declare h8 e0 hS hb (fun _ => hq) (fun a => by rw [hc] at a; cases a) (fun a => by rw [hc] at a; cases a) (fun a => by rw [hc] at a; cases a), Nat.le_refl 1, fun Q hq => p_M_declare hM h8 e10 hR hb (fun _ => hq) (fun a => by rw [hc] at a; cases a) (fun a => by rw [hc] at a; cases a) (fun a => by rw [hc] at a; cases a), rfl, fun z => absurd z (by decide), hV⟩
  | true =>
    by_cases hs : (s = -1 ∨ isC (nI n) s = true)
    · by_cases hz : (0 < chg B mc n ∨ 8 ≤ n ∨ ¬ clN (B 2) t n 0 = -1)
      · exact ⟨3, I, A, B, 1, 0, va_up I 9 3, A, B, fun Q hq => p_L_declare h8 e0 hS hb (fun a => by rw [hc] at a; cases a) (fun _ w => absurd hs w) (fun _ _ _ => hq) (fun _ _ w => absurd hz w), Nat.le_refl 1, fun Q hq => p_M_declare hM h8 e10 hR hb (fun a => by rw [hc] at a; cases a) (fun _ w => absurd hs w) (fun _ _ _ => hq) (fun _ _ w => absurd (hst.mp hz) w), rfl, fun z => absurd z (by decide), hV⟩
      · have w3 : clN (B 2) t n 0 = -1 := Classical.byContradiction (fun w => hz (Or.inr (Or.inr w)))
        have w8 : n < 8 := by
          by_cases w : 8 ≤ n
          · exact absurd (Or.inr (Or.inl w)) hz
          · omega
        have hs' : s = -1 ∨ ∃ p, p < n ∧ s = nI p := hs.elim Or.inl (fun w => Or.inr (isC_ix (by omega) w))
        have em' : mtot (va_up (plB B n t) 41 (vp_updL (B 41) 0 (nI n).toInt64)) mc 0 n = mtot B mc 0 n := mtot_ext (B := B) (B' := va_up (plB B n t) 41 (vp_updL (B 41) 0 (nI n).toInt64)) rfl rfl rfl rfl n 0
        refine ⟨0, _, _, _, 0, nI n, _, _, _, fun Q hq => p_L_declare h8 e0 hS hb (fun a => by rw [hc] at a; cases a) (fun _ w => absurd hs w) (fun _ _ w => absurd w hz) (fun _ _ _ => hq), Nat.zero_le 1, fun Q hq => p_M_declare (n := n) (mc := mc) (by rw [em']; exact hM) h8 e10 hR hb (fun a => by rw [hc] at a; cases a) (fun _ w => absurd hs w) (fun _ _ w => absurd (hst.mpr (by rw [em'] at w; exact w)) hz) (fun _ _ _ => hq), rfl, fun _ => ?_, hV.declare e0 w8 hb hs' (hq2 w3) (okT_cn hc)⟩
        show vp_updL (B 41) 0 (nI n).toInt64 0 = _
        exact pk_uLs
    · exact ⟨2, I, A, B, 1, 0, va_up I 9 2, A, B, fun Q hq => p_L_declare h8 e0 hS hb (fun a => by rw [hc] at a; cases a) (fun _ _ => hq) (fun _ w => absurd w hs) (fun _ w => absurd w hs), Nat.le_refl 1, fun Q hq => p_M_declare hM h8 e10 hR hb (fun a => by rw [hc] at a; cases a) (fun _ _ => hq) (fun _ w => absurd w hs) (fun _ w => absurd w hs), rfl, fun z => absurd z (by decide), hV⟩
theorem case_0 {L : Nat} {xs : Nat → Int32} : xCase vInv L xs 120 := lcase_0 j_declare
