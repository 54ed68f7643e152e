-- load, jointly
theorem byte_nat {x : Int32} (h0 : 0 ≤ x) (h1 : x ≤ 255) : ∃ k, k < 256 ∧ x = nI k := by
  have hc : isC (nI 256) x = true := by
    unfold isC
    rw [if_neg (fun q => Int32.lt_irrefl (Int32.lt_of_lt_of_le q h0)), if_neg (fun q => Int32.lt_irrefl (Int32.lt_of_lt_of_le (Int32.lt_of_lt_of_le (by decide : (255 : Int32) < nI 256) q) h1))]
  exact isC_ix (by omega) hc
def bN (f : Nat → Int32) (sz i : Nat) : Nat := if i < sz then (f i).toNatClampNeg else 0
theorem bN_at {f : Nat → Int32} {sz i : Nat} (h : ∀ j, j < sz → 0 ≤ f j ∧ f j ≤ 255) : bN f sz i < 256 ∧ (i < sz → f i = nI (bN f sz i)) ∧ (sz ≤ i → bN f sz i = 0) := by
  unfold bN
  by_cases w : i < sz
  · obtain ⟨k, hk, e⟩ := byte_nat (h i w).1 (h i w).2
    rw [if_pos w, e, nI_clamp (by omega)]
    exact ⟨hk, fun _ => rfl, fun q => by omega⟩
  · rw [if_neg w]
    exact ⟨by omega, fun q => absurd q w, fun _ => rfl⟩
theorem vK_N {N N' : Nat → Int64} {n m : Nat} {As : Nat → Nat → Int32} {Bs : Nat → Nat → Int64} (h : ∀ j, j < n → N j = N' j) (v : vK N n As Bs m) : vK N' n As Bs m := by
  obtain ⟨v1, ⟨v2, v3⟩, v4⟩ := v
  exact ⟨v1, ⟨fun j hj => (v2 j hj).trans (h j hj), fun j hj => by rw [← h j hj]; exact v3 j hj⟩, v4⟩
/-- what is behind the counted classes doesn't matter -/
theorem vInv.kept {I I2 : Nat → Int32} {A A2 : Nat → Nat → Int32} {B B2 : Nat → Nat → Int64} {n : Nat} (h : vInv I A B) (h8 : n ≤ 8) (e0 : I 0 = nI n) (i0 : I2 0 = I 0) (i10 : I2 10 = I 10) (i1 : I2 1 = I 1) (i11 : I2 11 = I 11) (a13 : A2 13 = A 13) (a35 : A2 35 = A 35)
    (hc : ∀ x, ¬ x = n → (A2 4 x = A 4 x ∧ A2 5 x = A 5 x ∧ A2 6 x = A 6 x ∧ A2 7 x = A 7 x ∧ B2 2 x = B 2 x ∧ B2 3 x = B 3 x) ∧ (A2 27 x = A 27 x ∧ A2 28 x = A 28 x ∧ A2 29 x = A 29 x ∧ B2 25 x = B 25 x ∧ B2 26 x = B 26 x))
    (hm : ∀ x, x < 8 * n → (A2 11 x = A 11 x ∧ B2 8 x = B 8 x ∧ B2 9 x = B 9 x ∧ B2 10 x = B 10 x) ∧ (A2 33 x = A 33 x ∧ B2 30 x = B 30 x ∧ B2 31 x = B 31 x ∧ B2 32 x = B 32 x)) : vInv I2 A2 B2 := by
  obtain ⟨n', mc, sz, h1, h2, h3, h4, h5, h6⟩ := h
  obtain rfl : n = n' := (nI_eq (by omega) (by omega)).mp (e0.symm.trans h1.2.1)
  refine ⟨n, mc, sz, by rw [i0, i10]; exact h1, fun c hc' => ?_, fun c k hc' hk => ?_, fun c d hc' hd => ?_, ⟨fun c k l hc' hk hl => ?_, fun c hc' => ?_, fun c k hc' hk => ?_⟩, by rw [i1, i11, a13, a35]; exact h6⟩
  · obtain ⟨⟨c4, c5, c6, c7, c2, c3⟩, ⟨c27, c28, c29, c25, c26⟩⟩ := hc c (by omega)
    rw [c4, c5, c6, c2, c3, c27, c28, c29, c25, c26]
    exact h2 c hc'
  · have m6 := (h2 c hc').2.2.2.1
    obtain ⟨⟨m11, m8, m9, m10⟩, ⟨m33, m30, m31, m32⟩⟩ := hm (8 * c + k) (by omega)
    rw [m11, m8, m9, m10, m33, m30, m31, m32]
    exact h3 c k hc' hk
  · rw [(hc c (by omega)).1.2.2.2.2.1, (hc d (by omega)).1.2.2.2.2.1]
    exact h4 c d hc' hd
  · have m6 := (h2 c hc').2.2.2.1
    rw [(hm (8 * c + k) (by omega)).1.2.1, (hm (8 * c + l) (by omega)).1.2.1, (hm (8 * c + k) (by omega)).1.2.2.2, (hm (8 * c + l) (by omega)).1.2.2.2]
    exact h5.1 c k l hc' hk hl
  · obtain ⟨⟨c4, c5, c6, c7, c2, c3⟩, -⟩ := hc c (by omega)
    obtain ⟨b1, b2, b3⟩ := h5.2.1 c hc'
    rw [c2, c3]
    refine ⟨b1, b2, ?_⟩
    unfold vAnc
    rw [c4, c7]
    rcases b3 with q | ⟨p, hp, q1, q2⟩
    · exact Or.inl q
    · exact Or.inr ⟨p, hp, q1, by rw [(hc p (by omega)).1.2.2.2.1]; exact q2⟩
  · have m6 := (h2 c hc').2.2.2.1
    obtain ⟨⟨m11, m8, m9, m10⟩, -⟩ := hm (8 * c + k) (by omega)
    rw [m8, m9, m10]
    exact h5.2.2 c k hc' hk
/-- one class more -/
theorem vInv.load {I I2 : Nat → Int32} {A A2 : Nat → Nat → Int32} {B B2 : Nat → Nat → Int64} {n k : Nat} {t : Int64} {s b : Int32} (h : vInv I A B) (hn : n < 8) (e0 : I 0 = nI n) (i0 : I2 0 = nI (n + 1)) (i10 : I2 10 = nI (n + 1)) (i1 : I2 1 = I 1) (i11 : I2 11 = I 11) (a13 : A2 13 = A 13) (a35 : A2 35 = A 35)
    (ht : isCN t = true) (hfr : ∀ j, j < n → ¬ B 2 j = t) (hs : s = -1 ∨ ∃ p, p < n ∧ s = nI p) (hb : b = 0 ∨ b = 1) (hk6 : k ≤ 6)
    (hc : ∀ x, ¬ x = n → (A2 4 x = A 4 x ∧ A2 5 x = A 5 x ∧ A2 6 x = A 6 x ∧ A2 7 x = A 7 x ∧ B2 2 x = B 2 x ∧ B2 3 x = B 3 x) ∧ (A2 27 x = A 27 x ∧ A2 28 x = A 28 x ∧ A2 29 x = A 29 x ∧ B2 25 x = B 25 x ∧ B2 26 x = B 26 x))
    (hx : (A2 4 n = s ∧ A2 5 n = b ∧ A2 6 n = nI k ∧ A2 7 n = anc A s ∧ B2 2 n = t ∧ B2 3 n = t) ∧ (A2 27 n = s ∧ A2 28 n = b ∧ A2 29 n = nI k ∧ B2 25 n = t ∧ B2 26 n = t))
    (hm : ∀ x, x < 8 * n → (A2 11 x = A 11 x ∧ B2 8 x = B 8 x ∧ B2 9 x = B 9 x ∧ B2 10 x = B 10 x) ∧ (A2 33 x = A 33 x ∧ B2 30 x = B 30 x ∧ B2 31 x = B 31 x ∧ B2 32 x = B 32 x))
    (hy : ∀ j, j < k → (isId (B2 8 (8 * n + j)) = true ∧ dOne (B2 10 (8 * n + j)) (n + 1) = true ∧ (A2 11 (8 * n + j) = 0 ∨ A2 11 (8 * n + j) = 1) ∧ B2 9 (8 * n + j) = B2 8 (8 * n + j)) ∧ (B2 30 (8 * n + j) = B2 8 (8 * n + j) ∧ B2 31 (8 * n + j) = B2 9 (8 * n + j) ∧ B2 32 (8 * n + j) = B2 10 (8 * n + j) ∧ A2 33 (8 * n + j) = A2 11 (8 * n + j)))
    (hu : ∀ j l, j < k → l < k → B2 8 (8 * n + j) = B2 8 (8 * n + l) → B2 10 (8 * n + j) = B2 10 (8 * n + l) → j = l) : vInv I2 A2 B2 := by
  obtain ⟨n', mc, sz, h1, h2, h3, h4, h5, h6⟩ := h
  obtain rfl : n = n' := (nI_eq (by omega) (by omega)).mp (e0.symm.trans h1.2.1)
  obtain ⟨⟨x4, x5, x6, x7, x2, x3⟩, ⟨x27, x28, x29, x25, x26⟩⟩ := hx
  have mcl : ∀ c j, c < n + 1 → j < (if c = n then k else mc c) → (c = n ∧ j < k) ∨ (c < n ∧ ¬ c = n ∧ j < mc c ∧ 8 * c + j < 8 * n) := fun c j hc' hj => by
    by_cases w : c = n
    · rw [if_pos w] at hj; exact Or.inl ⟨w, hj⟩
    · rw [if_neg w] at hj
      have m6 := (h2 c (by omega)).2.2.2.1
      exact Or.inr ⟨by omega, w, hj, by omega⟩
  refine ⟨n + 1, fun c => if c = n then k else mc c, sz, ⟨by omega, i0, i10⟩, fun c hc' => ?_, fun c j hc' hj => ?_, fun c d hc' hd => ?_, ⟨fun c j l hc' hj hl => ?_, fun c hc' => ?_, fun c j hc' hj => ?_⟩, by rw [i1, i11, a13, a35]; exact h6⟩
  · show _ ∧ _ ∧ _ ∧ (if c = n then k else mc c) ≤ 6 ∧ A2 6 c = nI (if c = n then k else mc c) ∧ A2 29 c = nI (if c = n then k else mc c)
    by_cases w : c = n
    · rw [w, if_pos rfl, x4, x5, x6, x2, x3, x27, x28, x29, x25, x26]
      exact ⟨⟨rfl, rfl, rfl, rfl⟩, hb, hs, hk6, rfl, rfl⟩
    · obtain ⟨⟨c4, c5, c6, c7, c2, c3⟩, ⟨c27, c28, c29, c25, c26⟩⟩ := hc c w
      rw [if_neg w, c4, c5, c6, c2, c3, c27, c28, c29, c25, c26]
      exact h2 c (by omega)
  · rcases mcl c j hc' hj with ⟨rfl, hj'⟩ | ⟨w1, w2, w3, w4⟩
    · obtain ⟨⟨y1, y2, y3, y4⟩, y5⟩ := hy j hj'
      exact ⟨y5, y3⟩
    · obtain ⟨⟨m11, m8, m9, m10⟩, ⟨m33, m30, m31, m32⟩⟩ := hm (8 * c + j) w4
      rw [m11, m8, m9, m10, m33, m30, m31, m32]
      exact h3 c j w1 w3
  · by_cases w : c = n
    · by_cases z : d = n
      · exact fun _ => w.trans z.symm
      · rw [w, x2, (hc d z).1.2.2.2.2.1]
        exact fun q => absurd q.symm (hfr d (by omega))
    · by_cases z : d = n
      · rw [z, x2, (hc c w).1.2.2.2.2.1]
        exact fun q => absurd q (hfr c (by omega))
      · rw [(hc c w).1.2.2.2.2.1, (hc d z).1.2.2.2.2.1]
        exact h4 c d (by omega) (by omega)
  · rcases mcl c j hc' hj with ⟨rfl, hj'⟩ | ⟨w1, w2, w3, w4⟩
    · rcases mcl c l hc' hl with ⟨_, hl'⟩ | ⟨_, w2, _, _⟩
      · exact hu j l hj' hl'
      · exact absurd rfl w2
    · rcases mcl c l hc' hl with ⟨w, _⟩ | ⟨_, _, z3, z4⟩
      · exact absurd w w2
      · rw [(hm _ w4).1.2.1, (hm _ z4).1.2.1, (hm _ w4).1.2.2.2, (hm _ z4).1.2.2.2]
        exact h5.1 c j l w1 w3 z3
  · by_cases w : c = n
    · rw [w, x2, x3]
      refine ⟨okT_cn ht, okT_cn ht, ?_⟩
      unfold vAnc
      rw [x4, x7]
      rcases hs with q | ⟨p, hp, q⟩
      · exact Or.inl ⟨q, by unfold anc; rw [if_pos q]⟩
      · refine Or.inr ⟨p, hp, q, ?_⟩
        rw [(hc p (by omega)).1.2.2.2.1]
        unfold anc
        rw [q, if_neg (fun z => m1_nI (by omega) z.symm), nI_clamp (by omega)]
    · obtain ⟨⟨c4, c5, c6, c7, c2, c3⟩, -⟩ := hc c w
      obtain ⟨b1, b2, b3⟩ := h5.2.1 c (by omega)
      rw [c2, c3]
      refine ⟨b1, b2, ?_⟩
      unfold vAnc
      rw [c4, c7]
      rcases b3 with q | ⟨p, hp, q1, q2⟩
      · exact Or.inl q
      · exact Or.inr ⟨p, hp, q1, by rw [(hc p (by omega)).1.2.2.2.1]; exact q2⟩
  · rcases mcl c j hc' hj with ⟨rfl, hj'⟩ | ⟨w1, w2, w3, w4⟩
    · obtain ⟨⟨y1, y2, y3, y4⟩, y5⟩ := hy j hj'
      rw [y4]
      exact ⟨okT_id y1, okT_id y1, dOne_ok (by omega) y2⟩
    · obtain ⟨⟨m11, m8, m9, m10⟩, -⟩ := hm (8 * c + j) w4
      rw [m8, m9, m10]
      obtain ⟨q1, q2, q3⟩ := h5.2.2 c j w1 w3
      exact ⟨q1, q2, okD_mono (by omega) q3⟩
theorem k_load : K_load vInv := by
  intro I A B hV
  have hV' := hV
  obtain ⟨n, mc, sz, ⟨h8, e0, e10⟩, h2, h3, h4, h5, ⟨e1, e11, hsz, hsb⟩⟩ := hV'
  have hbb : ∀ j, j < sz → 0 ≤ A 13 j ∧ A 13 j ≤ 255 := fun j hj => (hsb j hj).2
  have hBY : BY I A sz (bN (A 13) sz) := ⟨e1, hsz, fun i => (bN_at hbb).1, fun i hi => (bN_at hbb).2.1 hi, fun i hi => (bN_at hbb).2.2 hi⟩
  have hS : ∀ c, c < n → mc c ≤ 6 ∧ A 6 c = nI (mc c) := fun c hc => ⟨(h2 c hc).2.2.2.1, (h2 c hc).2.2.2.2.1⟩
  have hR : ∀ c, c < n → mc c ≤ 6 ∧ A 29 c = nI (mc c) := fun c hc => ⟨(h2 c hc).2.2.2.1, (h2 c hc).2.2.2.2.2⟩
  have hN : nOk (B 2) n := ⟨fun j hj => (h5.2.1 j hj).1, fun i j hi hj => h4 i j hi hj⟩
  have hN2 : ∀ j, j < n → B 25 j = B 2 j := fun j hj => (h2 j hj).1.1
  have hNM : nOk (B 25) n := ⟨fun j hj => by rw [hN2 j hj]; exact hN.1 j hj, fun i j hi hj => by rw [hN2 i hi, hN2 j hj]; exact hN.2 i j hi hj⟩
  have em : mtot B mc 0 n = chg B mc n := mtot_chg (fun c hc => (h2 c hc).2.2.2.1) (fun c hc => ⟨(h2 c hc).1.1, (h2 c hc).1.2.1⟩) (fun c k hc hk => ⟨(h3 c k hc hk).1.1, (h3 c k hc hk).1.2.1⟩) n 0 (Nat.zero_add n)
  have hM : mtot B mc 0 n < 2 ^ 31 := by
    have q1 := cntF_le (dif (B 3) (B 2)) n 0
    have q2 := cntF_le (fun m => numB mc n m && dif (B 9) (B 8) m) (8 * n) 0
    rw [em]
    unfold chg
    omega
  have hMY : ∀ {I1 A1}, I1 11 = I 11 → A1 35 = A 35 → MY I1 A1 sz (bN (A 13) sz) := fun q1 q2 => ⟨q1.trans e11, hsz, fun i => (bN_at hbb).1, fun i hi => by rw [q2, (hsb i hi).1]; exact (bN_at hbb).2.1 hi⟩
  generalize bN (A 13) sz = g at hBY hMY
  have hcond : (0 < mtot B mc 0 n ∨ n = 8) ↔ (0 < chg B mc n ∨ 8 ≤ n) := by
    rw [em]
    exact ⟨fun q => q.elim Or.inl (fun q => Or.inr (by omega)), fun q => q.elim Or.inl (fun q => Or.inr (by omega))⟩
  by_cases w1 : 0 < chg B mc n ∨ 8 ≤ n
  · refine ⟨1, 1, 0, fun I1 A1 B1 => I = I1 ∧ A = A1 ∧ B = B1, fun Q hq => p_L_load h8 e0 hS hBY hN (fun _ => hq _ _ _ ⟨rfl, rfl, rfl⟩) (fun w => absurd w1 w) (fun w => absurd w1 w), Nat.le_refl 1, ?_⟩
    rintro _ _ _ ⟨rfl, rfl, rfl⟩ Q hq
    exact p_M_load h8 e10 hR hM (hMY rfl rfl) hNM (fun _ => hq _ _ _ rfl (fun z => absurd z (by decide)) hV) (fun w => absurd (hcond.mpr w1) w) (fun w => absurd (hcond.mpr w1) w)
  · have hn : n < 8 := by
      rcases Nat.lt_or_ge n 8 with q | q
      · exact q
      · exact absurd (Or.inr q) w1
    by_cases w2 : ∃ As Bs m, vK (B 2) n As Bs m ∧ rd (fun i => nI (g i)) 0 sz = fileL (clF As Bs n m)
    · -- both take it
      refine ⟨0, 0, nI n, fun I1 A1 B1 => ∃ t s b k I0 A0 I' A' B', isCN t = true ∧ (∀ j, j < n → ¬ B 2 j = t) ∧ (s = -1 ∨ ∃ p, p < n ∧ s = nI p) ∧ (b = 0 ∨ b = 1) ∧ PC I A B n t s b k I0 A0 B' ∧ kp 2 15 5 20 6 21 I0 I' A0 A' ∧ rd (fun i => nI (g i)) 0 sz = fileL (clF A0 B' n k) ∧ va_up I' 0 (nI (n + 1)) = I1 ∧ A' = A1 ∧ va_up B' 41 (vp_updL (B' 41) 0 (nI n).toInt64) = B1, fun Q hq => p_L_load h8 e0 hS hBY hN (fun w => absurd w w1) (fun _ I' A' B' _ k2 => ?_) (fun _ t s b k I0 A0 I' A' B' a1 a2 a3 a4 a5 a6 a7 => hq _ _ _ ⟨t, s, b, k, I0, A0, I', A', B', a1, a2, a3, a4, a5, a6, a7, rfl, rfl, rfl⟩), Nat.zero_le 1, ?_⟩
      · obtain ⟨As, Bs, m, v, q⟩ := w2
        exact absurd q (k2 As Bs m v)
      · rintro _ _ _ ⟨t, s, b, k, I0, A0, I', A', B', a1, a2, a3, a4, hP, hk, a7, rfl, rfl, rfl⟩ Q hq
        obtain ⟨⟨p1, p2, p3⟩, ⟨e4, e5, e7, e2, e3⟩, ⟨q5, q6, q7⟩, q8, q9, q10⟩ := hP
        have hP : PC I A B n t s b k I0 A0 B' := ⟨⟨p1, p2, p3⟩, ⟨e4, e5, e7, e2, e3⟩, ⟨q5, q6, q7⟩, q8, q9, q10⟩
        have kA : ∀ r, ¬ (r = 4 ∨ r = 5 ∨ r = 6 ∨ r = 7 ∨ r = 11 ∨ r = 15 ∨ r = 20 ∨ r = 21 ∨ r = 23) → A' r = A r := fun r hr => (hk.2 r (by omega)).trans (p2 r (by omega))
        have kI : ∀ j, ¬ (j = 0 ∨ j = 2 ∨ j = 5 ∨ j = 6 ∨ j = 7 ∨ j = 8) → va_up I' 0 (nI (n + 1)) j = I j := fun j hj => (up_n (fun q => hj (by omega))).trans ((hk.1 j (by omega)).trans (p1 j (by omega)))
        have kB : ∀ r, ¬ (r = 2 ∨ r = 3 ∨ r = 8 ∨ r = 9 ∨ r = 10 ∨ r = 41) → va_up B' 41 (vp_updL (B' 41) 0 (nI n).toInt64) r = B r := fun r hr => (up_n (fun q => hr (by omega))).trans (p3 r (by omega))
        have b25 := kB 25 (by omega)
        have em' : mtot (va_up B' 41 (vp_updL (B' 41) 0 (nI n).toInt64)) mc 0 n = mtot B mc 0 n := mtot_ext (B := B) (B' := va_up B' 41 (vp_updL (B' 41) 0 (nI n).toInt64)) b25 (kB 26 (by omega)) (kB 30 (by omega)) (kB 31 (by omega)) n 0
        have vC := PC_vK a1 a2 a3 a4 hP
        have vM : vK (B 25) n A0 B' k := vK_N (fun j hj => (hN2 j hj).symm) vC
        refine p_M_load (n := n) (mc := mc) (g := g) h8 ((kI 10 (by omega)).trans e10) (fun c hc => by rw [kA 29 (by omega)]; exact hR c hc) (by rw [em']; exact hM) (hMY (kI 11 (by omega)) (kA 35 (by omega))) (by rw [b25]; exact hNM) (fun w => absurd (hcond.mp (by rw [em'] at w; exact w)) w1) (fun _ I1 A1 I2 A2 B2 _ _ _ _ r5 => absurd a7 (r5 A0 B' k (by rw [b25]; exact vM))) (fun _ tm sm bm I1 A1 I2 A2 B2 c1 c2 c3 c4 hPM hSM i1 i2 i3 i4 c5 => ?_)
        obtain ⟨-, -, ⟨g1, g2, g3⟩, g4⟩ := SPm_file hBY.2.2.1 hn (by rw [b25]; exact hNM.1) hPM rfl hSM (by rw [b25]; exact vM) a7
        have ek : k = g (sp g (g 1) + 3) := (SPm_file hBY.2.2.1 hn (by rw [b25]; exact hNM.1) hPM rfl hSM (by rw [b25]; exact vM) a7).1
        rw [← ek] at hPM
        obtain ⟨⟨m1, m2, m3⟩, ⟨n4, n5, n2, n3⟩, ⟨m5, m6, m7⟩, m8, m9, m10⟩ := hPM
        have t1 : tm = t := by rw [← g1, e2, pk_uLs]
        have t2 : sm = s := by rw [← g2, e4, pk_us]
        have t3 : bm = b := by rw [← g3, e5, pk_us]
        rw [t2] at n4
        rw [t3] at n5
        rw [t1] at n2 n3
        have a2r : ∀ r, ¬ (r = 27 ∨ r = 28 ∨ r = 29 ∨ r = 33 ∨ r = 36 ∨ r = 37 ∨ r = 38 ∨ r = 39 ∨ r = 40) → A2 r = A' r := fun r hr => (i4 r (by omega)).trans (m2 r (by omega))
        have b2r : ∀ r, ¬ (r = 25 ∨ r = 26 ∨ r = 30 ∨ r = 31 ∨ r = 32) → B2 r = va_up B' 41 (vp_updL (B' 41) 0 (nI n).toInt64) r := m3
        have b2c : ∀ r, ¬ (r = 25 ∨ r = 26 ∨ r = 30 ∨ r = 31 ∨ r = 32 ∨ r = 41) → B2 r = B' r := fun r hr => (b2r r (by omega)).trans (up_n (fun q => hr (by omega)))
        have acl : ∀ r, (r = 4 ∨ r = 5 ∨ r = 6 ∨ r = 7 ∨ r = 11) → A2 r = A0 r := fun r hr => (a2r r (by omega)).trans (hk.2 r (by omega))
        have amo : ∀ r, (r = 27 ∨ r = 28 ∨ r = 29 ∨ r = 33) → A2 r = A1 r := fun r hr => i4 r (by omega)
        refine hq I2 A2 B2 i2 (fun _ => ?_) (hV.load (t := t) (s := s) (b := b) (k := k) hn e0 ?_ i3 ?_ ?_ ?_ ?_ a1 a2 a3 a4 q7 (fun x hx => ⟨?_, ?_⟩) ⟨?_, ?_⟩ (fun x hx => ⟨?_, ?_⟩) (fun j hj => ⟨?_, ?_⟩) (fun j l hj hl => ?_))
        · rw [b2r 41 (by omega)]
          exact (pk_uLs : vp_updL (B' 41) 0 (nI n).toInt64 0 = _)
        · exact (i1 0 (by omega)).trans ((m1 0 (by omega)).trans rfl)
        · exact (i1 1 (by omega)).trans ((m1 1 (by omega)).trans (kI 1 (by omega)))
        · exact (i1 11 (by omega)).trans ((m1 11 (by omega)).trans (kI 11 (by omega)))
        · exact (a2r 13 (by omega)).trans (kA 13 (by omega))
        · exact (a2r 35 (by omega)).trans (kA 35 (by omega))
        · rw [acl 4 (by omega), acl 5 (by omega), acl 6 (by omega), acl 7 (by omega), b2c 2 (by omega), b2c 3 (by omega), e4, e5, e7, e2, e3, pk_un hx, pk_un hx, pk_un hx, pk_uLn hx, pk_uLn hx, q5 x hx]
          exact ⟨rfl, rfl, rfl, rfl, rfl, rfl⟩
        · rw [amo 27 (by omega), amo 28 (by omega), amo 29 (by omega), n4, n5, n2, n3, pk_un hx, pk_un hx, pk_uLn hx, pk_uLn hx, m5 x hx, kA 27 (by omega), kA 28 (by omega), kA 29 (by omega), b25, kB 26 (by omega)]
          exact ⟨rfl, rfl, rfl, rfl, rfl⟩
        · rw [acl 4 (by omega), acl 5 (by omega), acl 6 (by omega), acl 7 (by omega), b2c 2 (by omega), b2c 3 (by omega), e4, e5, e7, e2, e3, pk_us, pk_us, pk_us, pk_uLs, pk_uLs, q6]
          exact ⟨rfl, rfl, rfl, rfl, rfl, rfl⟩
        · rw [amo 27 (by omega), amo 28 (by omega), amo 29 (by omega), n4, n5, n2, n3, pk_us, pk_us, pk_uLs, pk_uLs, m6]
          exact ⟨rfl, rfl, rfl, rfl, rfl⟩
        · rw [acl 11 (by omega), b2c 8 (by omega), b2c 9 (by omega), b2c 10 (by omega)]
          exact q8 x hx
        · obtain ⟨r1, r2, r3, r4⟩ := m8 x hx
          rw [amo 33 (by omega), r1, r2, r3, r4, kA 33 (by omega), kB 30 (by omega), kB 31 (by omega), kB 32 (by omega)]
          exact ⟨rfl, rfl, rfl, rfl⟩
        · rw [acl 11 (by omega), b2c 8 (by omega), b2c 9 (by omega), b2c 10 (by omega)]
          exact q9 j hj
        · obtain ⟨r1, r2, r3⟩ := g4 j hj
          rw [acl 11 (by omega), b2c 8 (by omega), b2c 9 (by omega), b2c 10 (by omega), amo 33 (by omega), (m9 j hj).2.2.2, ← r1, ← r2, ← r3]
          exact ⟨rfl, (q9 j hj).2.2.2.symm, rfl, rfl⟩
        · rw [b2c 8 (by omega), b2c 10 (by omega)]
          exact q10 j l hj hl
    · have nw2 : ∀ As Bs m, vK (B 2) n As Bs m → ¬ rd (fun i => nI (g i)) 0 sz = fileL (clF As Bs n m) := fun As Bs m v q => w2 ⟨As, Bs, m, v, q⟩
      refine ⟨2, 1, 0, fun I1 A1 B1 => KW I A B n I1 A1 B1, fun Q hq => p_L_load h8 e0 hS hBY hN (fun w => absurd w w1) (fun _ I' A' B' k1 _ => hq _ _ _ k1) (fun _ t s b k I0 A0 I' A' B' a1 a2 a3 a4 a5 a6 a7 => absurd a7 (nw2 _ _ _ (PC_vK a1 a2 a3 a4 a5))), Nat.le_refl 1, ?_⟩
      rintro I1 A1 B1 ⟨k1, k2, k3, k4, k5⟩ Q hq
      have b25 := k3 25 (by omega)
      have em' : mtot B1 mc 0 n = mtot B mc 0 n := mtot_ext (B := B) (B' := B1) b25 (k3 26 (by omega)) (k3 30 (by omega)) (k3 31 (by omega)) n 0
      refine p_M_load (n := n) (mc := mc) (g := g) h8 ((k1 10 (by omega)).trans e10) (fun c hc => by rw [k2 29 (by omega)]; exact hR c hc) (by rw [em']; exact hM) (hMY (k1 11 (by omega)) (k2 35 (by omega))) (by rw [b25]; exact hNM) (fun w => absurd (hcond.mp (by rw [em'] at w; exact w)) w1) (fun _ I0 A0 I2 A2 B2 r1 r2 r3 r4 _ => ?_) (fun _ tm sm bm I0 A0 I2 A2 B2 c1 c2 c3 c4 hPM hSM i1 i2 i3 i4 c5 => ?_)
      · obtain ⟨s1, s2, s3, s4, s5⟩ := r1
        have a2r : ∀ r, ¬ (r = 27 ∨ r = 28 ∨ r = 29 ∨ r = 33 ∨ r = 36 ∨ r = 37 ∨ r = 38 ∨ r = 39 ∨ r = 40) → A2 r = A1 r := fun r hr => (r4 r (by omega)).trans (s2 r (by omega))
        have amo : ∀ r, (r = 27 ∨ r = 28 ∨ r = 29 ∨ r = 33) → A2 r = A0 r := fun r hr => r4 r (by omega)
        refine hq I2 A2 B2 r3 (fun z => absurd z (by decide)) (hV.kept h8 e0 ?_ ?_ ?_ ?_ ?_ ?_ (fun x hx => ⟨?_, ?_⟩) (fun x hx => ⟨?_, ?_⟩))
        · exact (r2 0 (by omega)).trans ((s1 0 (by omega)).trans (k1 0 (by omega)))
        · exact (r2 10 (by omega)).trans ((s1 10 (by omega)).trans (k1 10 (by omega)))
        · exact (r2 1 (by omega)).trans ((s1 1 (by omega)).trans (k1 1 (by omega)))
        · exact (r2 11 (by omega)).trans ((s1 11 (by omega)).trans (k1 11 (by omega)))
        · exact (a2r 13 (by omega)).trans (k2 13 (by omega))
        · exact (a2r 35 (by omega)).trans (k2 35 (by omega))
        · rw [a2r 4 (by omega), a2r 5 (by omega), a2r 6 (by omega), a2r 7 (by omega), s3 2 (by omega), s3 3 (by omega)]
          exact k4 x hx
        · obtain ⟨u1, u2, u3, u4, u5⟩ := s4 x hx
          rw [amo 27 (by omega), amo 28 (by omega), amo 29 (by omega), u1, u2, u3, u4, u5, k2 27 (by omega), k2 28 (by omega), k2 29 (by omega), b25, k3 26 (by omega)]
          exact ⟨rfl, rfl, rfl, rfl, rfl⟩
        · rw [a2r 11 (by omega), s3 8 (by omega), s3 9 (by omega), s3 10 (by omega)]
          exact k5 x hx
        · obtain ⟨u1, u2, u3, u4⟩ := s5 x hx
          rw [amo 33 (by omega), u1, u2, u3, u4, k2 33 (by omega), k3 30 (by omega), k3 31 (by omega), k3 32 (by omega)]
          exact ⟨rfl, rfl, rfl, rfl⟩
      · have v := PM_vK c1 c2 c3 c4 hPM
        rw [b25] at v
        exact absurd c5 (nw2 _ _ _ (vK_N hN2 v))
theorem case_15 {L : Nat} {xs : Nat → Int32} : xCase vInv L xs 1311 := kcase_15 k_load
