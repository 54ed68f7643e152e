theorem p_M_declare {I : Nat → Int32} {A : Nat → Nat → Int32} {B : Nat → Nat → Int64} {Q : xQ} {n : Nat} {mc : Nat → Nat} {t : Int64} {s b : Int32} (hM : mtot B mc 0 n < 2 ^ 31) (h8 : n ≤ 8) (e0 : I 10 = nI n) (hm : ∀ c, c < n → mc c ≤ 6 ∧ A 29 c = nI (mc c)) (hb : b = 0 ∨ b = 1) (h1 : isCN t = false → Q (.inl (some (.int 0))) (HX (va_up I 9 1) A B) 0) (h2 : isCN t = true → ¬ (s = -1 ∨ isC (nI n) s = true) → Q (.inl (some (.int 0))) (HX (va_up I 9 2) A B) 0) (h3 : isCN t = true → (s = -1 ∨ isC (nI n) s = true) → (0 < mtot B mc 0 n ∨ n = 8 ∨ ¬ lsN (B 25) t n 0 (-1) < 0) → Q (.inl (some (.int 0))) (HX (va_up I 9 3) A B) 0) (h0 : isCN t = true → (s = -1 ∨ isC (nI n) s = true) → ¬ (0 < mtot B mc 0 n ∨ n = 8 ∨ ¬ lsN (B 25) t n 0 (-1) < 0) → Q (.inl (some (.int (nI n)))) (HX (va_up (va_up I 9 0) 10 (nI (n + 1))) (puA A n s b) (puB B n t)) 0) : xRun tb_M_declare 5 [.ref 24, .long t, .int s, .int b] (HX I A B) Q := by
  refine ⟨Nat.le_of_ble_eq_true rfl, ?_⟩
  refine xG.go [3, 20, 30, 31, 48, 59, 76] 40 ?_
  show xG tb_M_declare Q (3, [some (.ref 24), some (.long t), none, some (.int s), some (.int b)], [.int (0 : Int32), .long t, .ref 24], (HX I A B), 0)
  refine xG.call (F := xRun tb_M_isName 8) rfl rfl (p_M_isName (al := false) ?_)
  rw [mName_cn]
  refine xG.go [3, 20, 30, 31, 48, 59, 76] 40 ?_
  show (((bI (isCN t)) = 0 → xG tb_M_declare Q (59, [some (.ref 24), some (.long t), none, some (.int s), some (.int b)], [.int (1 : Int32), .ref 24], (HX I A B), 0)) ∧ (¬ (bI (isCN t)) = 0 → ((s = (-1 : Int32) → xG tb_M_declare Q (30, [some (.ref 24), some (.long t), none, some (.int s), some (.int b)], [.ref 24], (HX I A B), 0)) ∧ (¬ s = (-1 : Int32) → xG tb_M_declare Q (20, [some (.ref 24), some (.long t), none, some (.int s), some (.int b)], [.int s, .ref 24, .ref 24], (HX I A B), 0)))))
  cases hc : isCN t with
  | false => exact br_y rfl (p_M_decl_no (by decide) (h1 hc))
  | true =>
    refine br_n (by decide) ⟨fun z => ?_, fun z => ?_⟩
    · exact p_M_decl_2 hM h8 e0 hm hb (h3 hc (Or.inl z)) (h0 hc (Or.inl z))
    · refine xG.callV (F := xRun tb_M_isClass 2) (a := 24) rfl rfl rfl rfl (p_M_isClass ?_)
      refine xG.go [3, 20, 30, 31, 48, 59, 76] 40 ?_
      show (((bI (isC (I 10) s)) = 0 → xG tb_M_declare Q (59, [some (.ref 24), some (.long t), none, some (.int s), some (.int b)], [.int (2 : Int32), .ref 24], (HX I A B), 0)) ∧ (¬ (bI (isC (I 10) s)) = 0 → xG tb_M_declare Q (30, [some (.ref 24), some (.long t), none, some (.int s), some (.int b)], [.ref 24], (HX I A B), 0)))
      rw [e0]
      cases hd : isC (nI n) s with
      | false => exact br_y rfl (p_M_decl_no (by decide) (h2 hc (fun w => w.elim z (fun w => by rw [hd] at w; cases w))))
      | true => exact br_n (by decide) (p_M_decl_2 hM h8 e0 hm hb (h3 hc (Or.inr hd)) (h0 hc (Or.inr hd)))
theorem vInv.declare {I : Nat → Int32} {A : Nat → Nat → Int32} {B : Nat → Nat → Int64} {n : Nat} {t : Int64} {s b : Int32} {f : Nat → Int64} (h : vInv I A B) (e0 : I 0 = nI n) (hn : n < 8) (hb : b = 0 ∨ b = 1) (hs : s = -1 ∨ ∃ p, p < n ∧ s = nI p) (ht : ∀ j, j < n → ¬ B 2 j = t) (hok : okT t) : vInv (va_up (va_up (va_up I 0 (nI (n + 1))) 9 0) 10 (nI (n + 1))) (puA (plA A n s b) n s b) (puB (va_up (plB B n t) 41 f) n t) := by
  obtain ⟨n', mc, sz, ⟨g8, g0, g10⟩, h2, h3, h4, h5, h6⟩ := h
  obtain rfl : n = n' := (nI_eq (by omega) (by omega)).mp (e0.symm.trans g0)
  refine ⟨n + 1, fun c => if c = n then 0 else mc c, sz, ⟨by omega, rfl, rfl⟩, fun c hc => ?_, fun c k hc hk => ?_, fun c d hc hd => ?_, ⟨fun c k l hc hk hl => ?_, fun c hc => ?_, fun c k hc hk => ?_⟩, h6⟩
  · show (vp_updL (B 25) n t c = vp_updL (B 2) n t c ∧ vp_updL (B 26) n t c = vp_updL (B 3) n t c ∧ upd (A 27) n s c = upd (A 4) n s c ∧ upd (A 28) n b c = upd (A 5) n b c) ∧ (upd (A 5) n b c = 0 ∨ upd (A 5) n b c = 1) ∧ (upd (A 4) n s c = -1 ∨ ∃ p, p < c ∧ upd (A 4) n s c = nI p) ∧ (if c = n then 0 else mc c) ≤ 6 ∧ upd (A 6) n 0 c = nI (if c = n then 0 else mc c) ∧ upd (A 29) n 0 c = nI (if c = n then 0 else mc c)
    by_cases w : c = n
    · subst w
      rw [if_pos rfl, pk_uLs, pk_uLs, pk_uLs, pk_uLs, pk_us, pk_us, pk_us, pk_us, pk_us, pk_us]
      exact ⟨⟨rfl, rfl, rfl, rfl⟩, hb, hs, by omega, rfl, rfl⟩
    · rw [if_neg w, pk_uLn w, pk_uLn w, pk_uLn w, pk_uLn w, pk_un w, pk_un w, pk_un w, pk_un w, pk_un w, pk_un w]
      exact h2 c (by omega)
  · have hk1 : k < (if c = n then 0 else mc c) := hk
    have w : c ≠ n := fun z => by rw [if_pos z] at hk1; omega
    rw [if_neg w] at hk1
    exact h3 c k (by omega) hk1
  · show vp_updL (B 2) n t c = vp_updL (B 2) n t d → c = d
    by_cases w : c = n
    · by_cases z : d = n
      · exact fun _ => w.trans z.symm
      · rw [w, pk_uLs, pk_uLn z]
        exact fun q => absurd q.symm (ht d (by omega))
    · by_cases z : d = n
      · rw [z, pk_uLs, pk_uLn w]
        exact fun q => absurd q (ht c (by omega))
      · rw [pk_uLn w, pk_uLn z]
        exact h4 c d (by omega) (by omega)
  · have hk1 : k < (if c = n then 0 else mc c) := hk
    have hl1 : l < (if c = n then 0 else mc c) := hl
    have w : c ≠ n := fun z => by rw [if_pos z] at hk1; omega
    rw [if_neg w] at hk1 hl1
    exact h5.1 c k l (by omega) hk1 hl1
  · show okT (vp_updL (B 2) n t c) ∧ okT (vp_updL (B 3) n t c) ∧ ((upd (A 4) n s c = -1 ∧ upd (A 7) n (anc A s) c = 0) ∨ ∃ p, p < c ∧ upd (A 4) n s c = nI p ∧ upd (A 7) n (anc A s) c = upd (A 7) n (anc A s) p ||| ((1 : Int32) <<< (nI p &&& 31)))
    by_cases w : c = n
    · subst w
      rw [pk_uLs, pk_uLs, pk_us, pk_us]
      refine ⟨hok, hok, ?_⟩
      rcases hs with z | ⟨p, hp, z⟩
      · exact Or.inl ⟨z, by unfold anc; rw [if_pos z]⟩
      · refine Or.inr ⟨p, hp, z, ?_⟩
        rw [pk_un (by omega : p ≠ c)]
        unfold anc
        have z1 : ¬ nI p < 0 := nI_pos (by omega)
        rw [z, if_neg (fun w => z1 (by rw [w]; decide)), nI_clamp (by omega)]
    · obtain ⟨b1, b2, b3⟩ := h5.2.1 c (by omega)
      rw [pk_uLn w, pk_uLn w, pk_un w, pk_un w]
      refine ⟨b1, b2, ?_⟩
      rcases b3 with b3 | ⟨p, hp, z1, z2⟩
      · exact Or.inl b3
      · refine Or.inr ⟨p, hp, z1, ?_⟩
        rw [pk_un (by omega : p ≠ n)]
        exact z2
  · have hk1 : k < (if c = n then 0 else mc c) := hk
    have w : c ≠ n := fun z => by rw [if_pos z] at hk1; omega
    rw [if_neg w] at hk1
    obtain ⟨b1, b2, b3⟩ := h5.2.2 c k (by omega) hk1
    exact ⟨b1, b2, okD_mono (by omega) b3⟩
