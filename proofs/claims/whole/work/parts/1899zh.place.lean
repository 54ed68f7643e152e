-- the class's reader: a class
/-- a class that may be placed behind the others -/
abbrev vK (N : Nat → Int64) (n : Nat) (As : Nat → Nat → Int32) (Bs : Nat → Nat → Int64) (m : Nat) : Prop :=
  isCN (Bs 2 n) = true ∧ ((∀ j, j < n → Bs 2 j = N j) ∧ ∀ j, j < n → ¬ N j = Bs 2 n) ∧ (As 4 n = -1 ∨ ∃ p, p < n ∧ As 4 n = nI p) ∧ (As 5 n = 0 ∨ As 5 n = 1) ∧ (As 6 n = nI m ∧ m ≤ 6) ∧
  (∀ j, j < m → isId (Bs 8 (8 * n + j)) = true ∧ dOne (Bs 10 (8 * n + j)) (n + 1) = true ∧ (As 11 (8 * n + j) = 0 ∨ As 11 (8 * n + j) = 1)) ∧
  (∀ j l, j < m → l < m → Bs 8 (8 * n + j) = Bs 8 (8 * n + l) → Bs 10 (8 * n + j) = Bs 10 (8 * n + l) → j = l)
/-- what the bytes tell where they are that class's file -/
abbrev FT (g : Nat → Nat) (sz : Nat) (N : Nat → Int64) (n : Nat) (As : Nat → Nat → Int32) (Bs : Nat → Nat → Int64) (m : Nat) : Prop :=
  (g 1 ≤ 14 ∧ sp g (g 1) ≤ sz) ∧ (g (sp g (g 1)) ≤ g 1 ∧ txt g (g (sp g (g 1))) = tx (Bs 2 n)) ∧
  ((As 4 n = -1 ∧ g (sp g (g 1) + 1) = 0) ∨ ∃ p, p < n ∧ As 4 n = nI p ∧ ¬ g (sp g (g 1) + 1) = 0 ∧ g (sp g (g 1) + 1) ≤ g 1 ∧ txt g (g (sp g (g 1) + 1)) = tx (N p)) ∧
  nI (g (sp g (g 1) + 2)) = As 5 n ∧ g (sp g (g 1) + 3) = m ∧
  ∀ j, j < m → (g (sp g (g 1) + 4 + 3 * j) ≤ g 1 ∧ txt g (g (sp g (g 1) + 4 + 3 * j)) = tx (Bs 8 (8 * n + j))) ∧ (g (sp g (g 1) + 4 + 3 * j + 1) ≤ g 1 ∧ txt g (g (sp g (g 1) + 4 + 3 * j + 1)) = dx (Bs 2) (Bs 10 (8 * n + j))) ∧ nI (g (sp g (g 1) + 4 + 3 * j + 2)) = As 11 (8 * n + j)
/-- a class is placed behind the others -/
abbrev PC (I : Nat → Int32) (A : Nat → Nat → Int32) (B : Nat → Nat → Int64) (n : Nat) (t : Int64) (s b : Int32) (k : Nat) (I' : Nat → Int32) (A' : Nat → Nat → Int32) (B' : Nat → Nat → Int64) : Prop :=
  ((∀ j, ¬ (j = 7 ∨ j = 8) → I' j = I j) ∧ (∀ r, ¬ (r = 4 ∨ r = 5 ∨ r = 6 ∨ r = 7 ∨ r = 11 ∨ r = 23) → A' r = A r) ∧ (∀ r, ¬ (r = 2 ∨ r = 3 ∨ r = 8 ∨ r = 9 ∨ r = 10) → B' r = B r)) ∧
  (A' 4 = upd (A 4) n s ∧ A' 5 = upd (A 5) n b ∧ A' 7 = upd (A 7) n (anc A s) ∧ B' 2 = vp_updL (B 2) n t ∧ B' 3 = vp_updL (B 3) n t) ∧
  ((∀ x, ¬ x = n → A' 6 x = A 6 x) ∧ A' 6 n = nI k ∧ k ≤ 6) ∧
  (∀ x, x < 8 * n → A' 11 x = A 11 x ∧ B' 8 x = B 8 x ∧ B' 9 x = B 9 x ∧ B' 10 x = B 10 x) ∧
  (∀ j, j < k → isId (B' 8 (8 * n + j)) = true ∧ dOne (B' 10 (8 * n + j)) (n + 1) = true ∧ (A' 11 (8 * n + j) = 0 ∨ A' 11 (8 * n + j) = 1) ∧ B' 9 (8 * n + j) = B' 8 (8 * n + j)) ∧
  (∀ j l, j < k → l < k → B' 8 (8 * n + j) = B' 8 (8 * n + l) → B' 10 (8 * n + j) = B' 10 (8 * n + l) → j = l)
theorem PC_step {I : Nat → Int32} {A : Nat → Nat → Int32} {B : Nat → Nat → Int64} {n : Nat} {t t' d' : Int64} {s b b' x : Int32} {k : Nat} {I' : Nat → Int32} {A' : Nat → Nat → Int32} {B' : Nat → Nat → Int64} (h : PC I A B n t s b k I' A' B') (hk : k < 6) (ht : isId t' = true) (hd : dOne d' (n + 1) = true) (hb : b' = 0 ∨ b' = 1) (ho : ∀ j, j < k → ¬ (B' 8 (8 * n + j) = t' ∧ B' 10 (8 * n + j) = d')) : PC I A B n t s b (k + 1) (va_up I' 8 x) (pmA A' n k b') (pmB B' (8 * n + k) t' d') := by
  obtain ⟨⟨h1, h2, h3⟩, h4, ⟨h5, h6, h7⟩, h8, h9, h10⟩ := h
  refine ⟨⟨fun j hj => (up_n (fun q => hj (by omega))).trans (h1 j hj), fun r hr => ?_, fun r hr => ?_⟩, h4, ⟨fun y hy => ?_, ?_, by omega⟩, fun y hy => ?_, fun j hj => ?_, fun j l hj hl => ?_⟩
  · unfold pmA
    rw [up_n (fun q => hr (by omega)), up_n (fun q => hr (by omega))]
    exact h2 r hr
  · unfold pmB
    rw [up_n (fun q => hr (by omega)), up_n (fun q => hr (by omega)), up_n (fun q => hr (by omega))]
    exact h3 r hr
  · show upd (A' 6) n (nI (k + 1)) y = A 6 y
    rw [pk_un hy]
    exact h5 y hy
  · show upd (A' 6) n (nI (k + 1)) n = _
    exact pk_us
  · show upd (A' 11) (8 * n + k) b' y = A 11 y ∧ vp_updL (B' 8) (8 * n + k) t' y = B 8 y ∧ vp_updL (B' 9) (8 * n + k) t' y = B 9 y ∧ vp_updL (B' 10) (8 * n + k) d' y = B 10 y
    rw [pk_un (by omega), pk_uLn (by omega), pk_uLn (by omega), pk_uLn (by omega)]
    exact h8 y hy
  · show isId (vp_updL (B' 8) (8 * n + k) t' (8 * n + j)) = true ∧ dOne (vp_updL (B' 10) (8 * n + k) d' (8 * n + j)) (n + 1) = true ∧ (upd (A' 11) (8 * n + k) b' (8 * n + j) = 0 ∨ upd (A' 11) (8 * n + k) b' (8 * n + j) = 1) ∧ vp_updL (B' 9) (8 * n + k) t' (8 * n + j) = vp_updL (B' 8) (8 * n + k) t' (8 * n + j)
    by_cases w : j = k
    · rw [w, pk_uLs, pk_uLs, pk_uLs, pk_us]
      exact ⟨ht, hd, hb, rfl⟩
    · rw [pk_uLn (by omega), pk_uLn (by omega), pk_uLn (by omega), pk_un (by omega)]
      exact h9 j (by omega)
  · show vp_updL (B' 8) (8 * n + k) t' (8 * n + j) = vp_updL (B' 8) (8 * n + k) t' (8 * n + l) → vp_updL (B' 10) (8 * n + k) d' (8 * n + j) = vp_updL (B' 10) (8 * n + k) d' (8 * n + l) → j = l
    by_cases w : j = k
    · by_cases z : l = k
      · exact fun _ _ => w.trans z.symm
      · rw [w, pk_uLs, pk_uLs, pk_uLn (by omega), pk_uLn (by omega)]
        exact fun q1 q2 => absurd ⟨q1.symm, q2.symm⟩ (ho l (by omega))
    · by_cases z : l = k
      · rw [z, pk_uLs, pk_uLs, pk_uLn (by omega), pk_uLn (by omega)]
        exact fun q1 q2 => absurd ⟨q1, q2⟩ (ho j (by omega))
      · rw [pk_uLn (by omega), pk_uLn (by omega), pk_uLn (by omega), pk_uLn (by omega)]
        exact h10 j l (by omega) (by omega)
/-- the counted classes are as they were -/
abbrev KW (I : Nat → Int32) (A : Nat → Nat → Int32) (B : Nat → Nat → Int64) (n : Nat) (I' : Nat → Int32) (A' : Nat → Nat → Int32) (B' : Nat → Nat → Int64) : Prop :=
  (∀ j, ¬ (j = 2 ∨ j = 5 ∨ j = 6 ∨ j = 7 ∨ j = 8) → I' j = I j) ∧ (∀ r, ¬ (r = 4 ∨ r = 5 ∨ r = 6 ∨ r = 7 ∨ r = 11 ∨ r = 15 ∨ r = 20 ∨ r = 21 ∨ r = 23) → A' r = A r) ∧ (∀ r, ¬ (r = 2 ∨ r = 3 ∨ r = 8 ∨ r = 9 ∨ r = 10) → B' r = B r) ∧
  (∀ x, ¬ x = n → A' 4 x = A 4 x ∧ A' 5 x = A 5 x ∧ A' 6 x = A 6 x ∧ A' 7 x = A 7 x ∧ B' 2 x = B 2 x ∧ B' 3 x = B 3 x) ∧
  (∀ x, x < 8 * n → A' 11 x = A 11 x ∧ B' 8 x = B 8 x ∧ B' 9 x = B 9 x ∧ B' 10 x = B 10 x)
theorem PC_KW {I : Nat → Int32} {A : Nat → Nat → Int32} {B : Nat → Nat → Int64} {n : Nat} {t : Int64} {s b : Int32} {k : Nat} {I' : Nat → Int32} {A' : Nat → Nat → Int32} {B' : Nat → Nat → Int64} (h : PC I A B n t s b k I' A' B') : KW I A B n I' A' B' := by
  obtain ⟨⟨h1, h2, h3⟩, ⟨e4, e5, e7, e2, e3⟩, ⟨h5, h6, h7⟩, h8, h9, h10⟩ := h
  refine ⟨fun j hj => h1 j (by omega), fun r hr => h2 r (by omega), h3, fun x hx => ⟨?_, ?_, h5 x hx, ?_, ?_, ?_⟩, h8⟩
  · rw [e4, pk_un hx]
  · rw [e5, pk_un hx]
  · rw [e7, pk_un hx]
  · rw [e2, pk_uLn hx]
  · rw [e3, pk_uLn hx]
theorem dxF_ext {N N' : Nat → Int64} {d : Int64} : ∀ (k i : Nat), (∀ z, i ≤ z → z < i + k → cdg (tch d (nI z)) 8 = true → N (tch d (nI z) - 48).toNatClampNeg = N' (tch d (nI z) - 48).toNatClampNeg) → dxF N d i k = dxF N' d i k
  | 0, i, h => rfl
  | k + 1, i, h => by
    unfold dxF
    rw [dxF_ext k (i + 1) (fun z h1 h2 => h z (by omega) (by omega))]
    by_cases w : cdg (tch d (nI i)) 8 = true
    · rw [if_pos w, if_pos w, h i (by omega) (by omega) w]
    · rw [if_neg w, if_neg w]
theorem dx_ext {N N' : Nat → Int64} {d : Int64} {n : Nat} (hn : n < 8) (hd : dOne d (n + 1) = true) (h : ∀ j, j < n + 1 → N j = N' j) : dx N d = dx N' d := by
  refine dxF_ext _ _ (fun z _ hz w => ?_)
  obtain ⟨-, -, q⟩ := dOne_at hn hd (by omega : z < tlen d)
  rcases q with ⟨-, j, hj, e⟩ | ⟨q, -⟩
  · have es : nI (48 + j) - 48 = nI j := by
      rw [← nI_add, Int32.add_comm]
      exact Int32.add_sub_cancel _ _
    rw [e, es, nI_clamp (by omega)]
    exact h j hj
  · rw [q] at w; cases w
theorem clN_m1 {f : Nat → Int64} {t : Int64} : ∀ (k c : Nat), c + k < 2 ^ 31 → clN f t k c = -1 → ∀ j, c ≤ j → j < c + k → ¬ f j = t
  | 0, c, _, h, j, h1, h2 => by omega
  | k + 1, c, hb, h, j, h1, h2 => by
    unfold clN at h
    by_cases w : f c = t
    · rw [if_pos w] at h
      exact absurd h.symm (m1_nI (by omega))
    · rw [if_neg w] at h
      by_cases e : j = c
      · rw [e]; exact w
      · exact clN_m1 k (c + 1) (by omega) h j (by omega) (by omega)
/-- what has been read so far is the class whose file it is -/
abbrev SPr (g : Nat → Nat) (sz : Nat) (N : Nat → Int64) (n : Nat) (t : Int64) (s b : Int32) (k : Nat) (A' : Nat → Nat → Int32) (B' : Nat → Nat → Int64) : Prop :=
  ∀ As Bs m, vK N n As Bs m → FT g sz N n As Bs m → (Bs 2 n = t ∧ As 4 n = s ∧ As 5 n = b) ∧ ∀ j, j < k → j < m → Bs 8 (8 * n + j) = B' 8 (8 * n + j) ∧ Bs 10 (8 * n + j) = B' 10 (8 * n + j) ∧ As 11 (8 * n + j) = A' 11 (8 * n + j)
theorem own_no {f g : Nat → Int64} {t d : Int64} {c m : Nat} (h8 : 8 * c + m < 2 ^ 31) (h : owN f g t d c m 0 = -1) : ∀ j, j < m → ¬ (f (8 * c + j) = t ∧ g (8 * c + j) = d) := by
  have key : ∀ (k i : Nat), 8 * c + i + k < 2 ^ 31 → owN f g t d c k i = -1 → ∀ j, i ≤ j → j < i + k → ¬ (f (8 * c + j) = t ∧ g (8 * c + j) = d) := fun k => by
    induction k with
    | zero => intro i _ _ j h1 h2; omega
    | succ k ih =>
      intro i hb h j h1 h2
      unfold owN at h
      by_cases w : f (8 * c + i) = t ∧ g (8 * c + i) = d
      · rw [if_pos w] at h
        exact absurd h.symm (m1_nI (by omega))
      · rw [if_neg w] at h
        by_cases e : j = i
        · rw [e]; exact w
        · exact ih (i + 1) (by omega) h j (by omega) (by omega)
  exact fun j hj => key m 0 (by omega) h j (by omega) (by omega)
theorem p_R_place_l {I : Nat → Int32} {A : Nat → Nat → Int32} {B : Nat → Nat → Int64} {Q : xQ} {sz n : Nat} {g : Nat → Nat} {t : Int64} {s b : Int32} (hg : ∀ i, g i < 256) (hT : g 1 ≤ 14) (hn : n < 8) (e0 : I 0 = nI n) (hN : nOk (vp_updL (B 2) n t) (n + 1)) (hb8 : BY I A sz g)
    (h0 : ∀ I' A' B', KW I A B n I' A' B' → (∀ As Bs m, vK (B 2) n As Bs m → ¬ FT g sz (B 2) n As Bs m) → Q (.inl (some (.int 0))) (HX I' A' B') 0)
    (h1 : ∀ I' A' B', PC I A B n t s b (g (sp g (g 1) + 3)) I' A' B' → SPr g sz (B 2) n t s b (g (sp g (g 1) + 3)) A' B' → Q (.inl (some (.int 1))) (HX I' A' B') 0) : ∀ (c k : Nat) (I' : Nat → Int32) (A' : Nat → Nat → Int32) (B' : Nat → Nat → Int64), k + c = g (sp g (g 1) + 3) → PC I A B n t s b k I' A' B' → SPr g sz (B 2) n t s b k A' B' → RSt A' g (g 1) → I' 7 = nI (g 1) → I' 8 = nI (sp g (g 1) + 4 + 3 * k) → xG tb_R_placeClass Q (90, [some (.ref 22), some (.long t), none, some (.int s), some (.int (nI (g (sp g (g 1) + 3)))), some (.int (nI k))], [], HX I' A' B', 0)
  | 0, k, I', A', B', e, hP, hs, hR, e7, e8 => by
    have hg3 := hg (sp g (g 1) + 3)
    refine xG.go [1, 11, 14, 19, 37, 47, 66, 78, 82, 90, 98] 60 ?_
    show (((nI (g (sp g (g 1) + 3))) ≤ (nI k) → (((1 : Int32) = (0 : Int32) ∨ (1 : Int32) = 1) ∧ Q (.inl (some (.int (1 : Int32)))) (HX I' A' B') 0)) ∧ (¬ (nI (g (sp g (g 1) + 3))) ≤ (nI k) → xG tb_R_placeClass Q (98, [some (.ref 22), some (.long t), none, some (.int s), some (.int (nI (g (sp g (g 1) + 3)))), some (.int (nI k))], [.ref 22], (HX I' A' B'), 0)))
    obtain rfl : k = g (sp g (g 1) + 3) := by omega
    exact br_y (nI_le (by omega) (by omega)) ⟨Or.inr rfl, h1 I' A' B' hP hs⟩
  | c + 1, k, I', A', B', e, hP, hs, hR, e7, e8 => by
    have hg3 := hg (sp g (g 1) + 3)
    have hsp := sp_le hg (g 1)
    have hP' := hP
    obtain ⟨⟨p1, p2, p3⟩, ⟨p4, p5, p6, p7, p8⟩, ⟨p9, p10, p11⟩, p12, p13, p14⟩ := hP'
    refine xG.go [1, 11, 14, 19, 37, 47, 66, 78, 82, 90, 98] 60 ?_
    show (((nI (g (sp g (g 1) + 3))) ≤ (nI k) → (((1 : Int32) = (0 : Int32) ∨ (1 : Int32) = 1) ∧ Q (.inl (some (.int (1 : Int32)))) (HX I' A' B') 0)) ∧ (¬ (nI (g (sp g (g 1) + 3))) ≤ (nI k) → xG tb_R_placeClass Q (98, [some (.ref 22), some (.long t), none, some (.int s), some (.int (nI (g (sp g (g 1) + 3)))), some (.int (nI k))], [.ref 22], (HX I' A' B'), 0)))
    have hBY : BY I' A' sz g := by
      refine ⟨(p1 1 (by omega)).trans hb8.1, hb8.2.1, hb8.2.2.1, fun i hi => ?_, hb8.2.2.2.2⟩
      rw [p2 13 (by omega)]
      exact hb8.2.2.2.1 i hi
    refine br_n (nI_ge (by omega) (by omega)) ?_
    have hnt : ∀ a, g a ≤ g 1 → nt g (g 1) a = g a := fun a ha => if_pos ha
    have hdx : ∀ As Bs m j, vK (B 2) n As Bs m → FT g sz (B 2) n As Bs m → j < m → dx (Bs 2) (Bs 10 (8 * n + j)) = dx (B' 2) (Bs 10 (8 * n + j)) := fun As Bs m j v f hj => dx_ext hn (v.2.2.2.2.2.1 j hj).2.1 (fun i hi => by
      rw [p7]
      by_cases q : i = n
      · rw [q, pk_uLs]; exact (hs As Bs m v f).1.1
      · rw [pk_uLn q]; exact v.2.1.1 i (by omega))
    refine xG.callV (F := xRun tb_R_placeMember 7) (a := 22) rfl rfl rfl rfl (p_R_placeMember hBY hR e8 (by omega) e7 hn ((p1 0 (by omega)).trans e0) (by rw [p7]; exact hN) p11 p10 (fun hno => ?_) (fun t' d' i1 i2 i3 i4 i5 i6 => ?_))
    · refine xG.go [1, 11, 14, 19, 37, 47, 66, 78, 82, 90, 98] 60 ?_
      show (((0 : Int32) = 0 → (((0 : Int32) = (0 : Int32) ∨ (0 : Int32) = 1) ∧ Q (.inl (some (.int (0 : Int32)))) (HX (va_up I' 8 (nI (sp g (g 1) + 4 + 3 * k + 3))) A' B') 0)) ∧ (¬ (0 : Int32) = 0 → xG tb_R_placeClass Q (90, [some (.ref 22), some (.long t), none, some (.int s), some (.int (nI (g (sp g (g 1) + 3)))), some (.int ((nI k) + (1 : Int32)))], [], (HX (va_up I' 8 (nI (sp g (g 1) + 4 + 3 * k + 3))) A' B'), 0)))
      refine br_y rfl ⟨Or.inl rfl, h0 _ _ _ ?_ (fun As Bs m v f => ?_)⟩
      · obtain ⟨k1, k2, k3, k4, k5⟩ := PC_KW hP
        exact ⟨fun j hj => (up_n (fun q => hj (by omega))).trans (k1 j hj), k2, k3, k4, k5⟩
      · have hm : k < m := by
          have := f.2.2.2.2.1
          omega
        obtain ⟨⟨f1, f2⟩, ⟨f3, f4⟩, f5⟩ := f.2.2.2.2.2 k hm
        obtain ⟨v1, v2, v3⟩ := v.2.2.2.2.2.1 k hm
        refine hno (Bs 8 (8 * n + k)) (Bs 10 (8 * n + k)) v1 v2 (by rw [hnt _ f1]; exact f2) (by rw [hnt _ f3, ← hdx As Bs m k v f hm]; exact f4) ⟨by have := v.2.2.2.2.1.2; omega, owN_no k 0 (fun j _ hj q => ?_)⟩
        have := (hs As Bs m v f).2 j (by omega) (by omega)
        have := v.2.2.2.2.2.2 j k (by omega) hm (this.1.trans q.1) (this.2.1.trans q.2)
        omega
    · refine xG.go [1, 11, 14, 19, 37, 47, 66, 78, 82, 90, 98] 60 ?_
      show (((1 : Int32) = 0 → (((0 : Int32) = (0 : Int32) ∨ (0 : Int32) = 1) ∧ Q (.inl (some (.int (0 : Int32)))) (HX (va_up I' 8 (nI (sp g (g 1) + 4 + 3 * k + 3))) (pmA A' n k (if g (sp g (g 1) + 4 + 3 * k + 2) = 1 then 1 else 0)) (pmB B' (8 * n + k) t' d')) 0)) ∧ (¬ (1 : Int32) = 0 → xG tb_R_placeClass Q (90, [some (.ref 22), some (.long t), none, some (.int s), some (.int (nI (g (sp g (g 1) + 3)))), some (.int ((nI k) + (1 : Int32)))], [], (HX (va_up I' 8 (nI (sp g (g 1) + 4 + 3 * k + 3))) (pmA A' n k (if g (sp g (g 1) + 4 + 3 * k + 2) = 1 then 1 else 0)) (pmB B' (8 * n + k) t' d')), 0)))
      rw [nI_1]
      have hbb : (if g (sp g (g 1) + 4 + 3 * k + 2) = 1 then (1 : Int32) else 0) = 0 ∨ (if g (sp g (g 1) + 4 + 3 * k + 2) = 1 then (1 : Int32) else 0) = 1 := by
        split
        · exact Or.inr rfl
        · exact Or.inl rfl
      refine br_n (by decide) (p_R_place_l hg hT hn e0 hN hb8 h0 h1 c (k + 1) _ _ _ (by omega) (PC_step hP i5 i1 i2 hbb (own_no (by omega) i6)) (fun As Bs m v f => ⟨(hs As Bs m v f).1, fun j hj hm => ?_⟩) hR e7 ?_)
      · show Bs 8 (8 * n + j) = vp_updL (B' 8) (8 * n + k) t' (8 * n + j) ∧ Bs 10 (8 * n + j) = vp_updL (B' 10) (8 * n + k) d' (8 * n + j) ∧ As 11 (8 * n + j) = upd (A' 11) (8 * n + k) _ (8 * n + j)
        by_cases w : j = k
        · subst w
          rw [pk_uLs, pk_uLs, pk_us]
          obtain ⟨⟨f1, f2⟩, ⟨f3, f4⟩, f5⟩ := f.2.2.2.2.2 j hm
          obtain ⟨v1, v2, v3⟩ := v.2.2.2.2.2.1 j hm
          refine ⟨(i3 _ (by rw [hnt _ f1]; exact f2)).symm, (i4 _ v2 (by rw [hnt _ f3, ← hdx As Bs m j v f hm]; exact f4)).symm, ?_⟩
          have hgj := hg (sp g (g 1) + 4 + 3 * j + 2)
          rw [← f5] at v3 ⊢
          rcases v3 with q | q
          · have := (nI_eq (b := 0) (by omega) (by omega)).mp q
            rw [this]; rfl
          · have := (nI_eq (b := 1) (by omega) (by omega)).mp q
            rw [this]; rfl
        · rw [pk_uLn (by omega), pk_uLn (by omega), pk_un (by omega)]
          exact (hs As Bs m v f).2 j (by omega) hm
      · show nI (sp g (g 1) + 4 + 3 * k + 3) = nI (sp g (g 1) + 4 + 3 * (k + 1))
        rw [show sp g (g 1) + 4 + 3 * k + 3 = sp g (g 1) + 4 + 3 * (k + 1) by omega]
theorem p_R_placeClass {I : Nat → Int32} {A : Nat → Nat → Int32} {B : Nat → Nat → Int64} {Q : xQ} {sz n : Nat} {g : Nat → Nat} (h : BY I A sz g) (hn : n < 8) (e0 : I 0 = nI n) (hN : nOk (B 2) n)
    (h0 : ∀ I' A' B', KW I A B n I' A' B' → (∀ As Bs m, vK (B 2) n As Bs m → ¬ FT g sz (B 2) n As Bs m) → Q (.inl (some (.int 0))) (HX I' A' B') 0)
    (h1 : ∀ t s b I' A' B', isCN t = true → (∀ j, j < n → ¬ B 2 j = t) → (s = -1 ∨ ∃ p, p < n ∧ s = nI p) → (b = 0 ∨ b = 1) → PC I A B n t s b (g (sp g (g 1) + 3)) I' A' B' → SPr g sz (B 2) n t s b (g (sp g (g 1) + 3)) A' B' → Q (.inl (some (.int 1))) (HX I' A' B') 0) : xRun tb_R_placeClass 6 [.ref 22] (HX I A B) Q := by
  have hg := h.2.2.1
  refine ⟨Nat.le_of_ble_eq_true rfl, ?_⟩
  refine xG.go [1, 11, 14, 19, 37, 47, 66, 78, 82, 90, 98] 60 ?_
  show xG tb_R_placeClass Q (1, [some (.ref 22), none, none, none, none, none], [.ref 22], (HX I A B), 0)
  have kw0 : ∀ x y f, KW I A B n (va_up (va_up I 7 x) 8 y) (va_up A 23 f) B := fun x y f => ⟨fun j hj => (up_n (fun q => hj (by omega))).trans (up_n (fun q => hj (by omega))), fun r hr => up_n (fun q => hr (by omega)), fun _ _ => rfl, fun _ _ => ⟨rfl, rfl, rfl, rfl, rfl, rfl⟩, fun _ _ => ⟨rfl, rfl, rfl, rfl⟩⟩
  refine xG.callV (F := xRun tb_R_skipPool 2) (a := 22) rfl rfl rfl rfl (p_R_skipPool h (fun w x y f => ?_) (fun hT hsz f hf => ?_))
  · refine xG.go [1, 11, 14, 19, 37, 47, 66, 78, 82, 98] 20 ?_
    show ((0 : Int32) = 0 → _) ∧ _
    exact br_y rfl ⟨Or.inl rfl, h0 _ _ _ (kw0 _ _ _) (fun As Bs m v ft => w ft.1)⟩
  · have hsp := sp_le hg (g 1)
    generalize ha : sp g (g 1) = a at *
    refine xG.go [1, 11, 14, 19, 37, 47, 66, 78, 82, 90, 98] 60 ?_
    show (((1 : Int32) = 0 → (((0 : Int32) = (0 : Int32) ∨ (0 : Int32) = 1) ∧ Q (.inl (some (.int (0 : Int32)))) (HX (va_up (va_up I 7 (nI (g 1))) 8 (nI a)) (va_up A 23 f) B) 0)) ∧ (¬ (1 : Int32) = 0 → xG tb_R_placeClass Q (11, [some (.ref 22), none, none, none, none, none], [.ref 22, .ref 22], (HX (va_up (va_up I 7 (nI (g 1))) 8 (nI a)) (va_up A 23 f) B), 0)))
    have hR : RSt (va_up A 23 f) g (g 1) := ⟨hT, hf⟩
    refine br_n (by decide) ?_
    refine xG.callV (F := xRun tb_R_nextText 2) (a := 22) rfl rfl rfl rfl (p_R_nextText (I := va_up (va_up I 7 (nI (g 1))) 8 (nI a)) (A := va_up A 23 f) h rfl (by omega) rfl hT ?_)
    rw [up_up]
    refine xG.callV (F := xRun tb_R_shortText1 2) (a := 22) rfl rfl rfl rfl (p_R_shortText1 (I := va_up (va_up I 7 (nI (g 1))) 8 (nI (a + 1))) (A := va_up A 23 f) h hR nt_le ?_)
    have ht : ∀ As Bs m, vK (B 2) n As Bs m → FT g sz (B 2) n As Bs m → Bs 2 n = sT g (nt g (g 1) a) := fun As Bs m v ft => by
      unfold FT at ft
      rw [ha] at ft
      rw [show nt g (g 1) a = g a from if_pos ft.2.1.1]
      exact (sT_tx ft.2.1.2).symm
    generalize sT g (nt g (g 1) a) = t at ht ⊢
    refine xG.go [1, 11, 14, 19, 37, 47, 66, 78, 82, 90, 98] 60 ?_
    show xG tb_R_placeClass Q (19, [some (.ref 22), some (.long t), none, none, none, none], [.long t], (HX (va_up (va_up I 7 (nI (g 1))) 8 (nI (a + 1))) (va_up A 23 f) B), 0)
    refine xG.call (F := xRun tb_T_isClassName 6) rfl rfl (p_T_isClassName ?_)
    refine xG.go [1, 11, 14, 19, 37, 47, 66, 78, 82, 90, 98] 60 ?_
    show (((bI (isCN t)) = 0 → (((0 : Int32) = (0 : Int32) ∨ (0 : Int32) = 1) ∧ Q (.inl (some (.int (0 : Int32)))) (HX (va_up (va_up I 7 (nI (g 1))) 8 (nI (a + 1))) (va_up A 23 f) B) 0)) ∧ (¬ (bI (isCN t)) = 0 → xG tb_R_placeClass Q (37, [some (.ref 22), some (.long t), none, none, none, none], [.int (I 0), .long t, .ref 1], (HX (va_up (va_up I 7 (nI (g 1))) 8 (nI (a + 1))) (va_up A 23 f) B), 0)))
    cases hc : isCN t with
    | false =>
      refine br_y rfl ⟨Or.inl rfl, h0 _ _ _ (kw0 _ _ _) (fun As Bs m v ft => ?_)⟩
      have := v.1
      rw [ht As Bs m v ft, hc] at this
      cases this
    | true =>
      rw [e0]
      refine br_n (by decide) ?_
      refine xG.callV (F := xRun tb_S_classNamed 5) (a := 1) rfl rfl rfl rfl (p_S_classNamed (I := va_up (va_up I 7 (nI (g 1))) 8 (nI (a + 1))) (A := va_up A 23 f) (by omega) ?_)
      refine xG.go [1, 11, 14, 19, 37, 47, 66, 78, 82, 90, 98] 60 ?_
      show (((clN (B 2) t n 0) = (-1 : Int32) → xG tb_R_placeClass Q (47, [some (.ref 22), some (.long t), none, none, none, none], [.ref 22], (HX (va_up (va_up I 7 (nI (g 1))) 8 (nI (a + 1))) (va_up A 23 f) B), 0)) ∧ (¬ (clN (B 2) t n 0) = (-1 : Int32) → (((0 : Int32) = (0 : Int32) ∨ (0 : Int32) = 1) ∧ Q (.inl (some (.int (0 : Int32)))) (HX (va_up (va_up I 7 (nI (g 1))) 8 (nI (a + 1))) (va_up A 23 f) B) 0)))
      refine ⟨fun w => ?_, fun w => ⟨Or.inl rfl, h0 _ _ _ (kw0 _ _ _) (fun As Bs m v ft => w (clN_no n 0 (fun j _ hj q => v.2.1.2 j (by omega) (by rw [ht As Bs m v ft]; exact q))))⟩⟩
      have hfr := clN_m1 n 0 (by omega) w
      refine xG.callV (F := xRun tb_R_nextSuperclass 3) (a := 22) rfl rfl rfl rfl (p_R_nextSuperclass (I := va_up (va_up I 7 (nI (g 1))) 8 (nI (a + 1))) (A := va_up A 23 f) h hR rfl (by omega) rfl hn e0 ?_)
      rw [up_up]
      have hs : ∀ As Bs m, vK (B 2) n As Bs m → FT g sz (B 2) n As Bs m → As 4 n = nsc g (B 2) (g 1) n (a + 1) := fun As Bs m v ft => by
        unfold FT at ft
        rw [ha] at ft
        unfold nsc
        rcases ft.2.2.1 with ⟨q1, q2⟩ | ⟨p, q1, q2, q3, q4, q5⟩
        · rw [if_pos q2]; exact q1
        · have ec : clN (B 2) (sT g (g (a + 1))) n 0 = nI p := by
            rw [sT_tx q5]
            exact clN_yes rfl n 0 (by omega) (by omega) (fun x _ hx ex => hN.2 x p (by omega) q1 ex)
          rw [if_neg q3, if_neg (by omega), ec, if_neg (fun z => m1_nI (by omega) z.symm)]
          exact q2
      have hs2 : nsc g (B 2) (g 1) n (a + 1) = -2 ∨ (nsc g (B 2) (g 1) n (a + 1) = -1 ∨ ∃ p, p < n ∧ nsc g (B 2) (g 1) n (a + 1) = nI p) := by
        unfold nsc
        split
        · exact Or.inr (Or.inl rfl)
        · split
          · exact Or.inl rfl
          · rcases clN_r (f := B 2) (t := sT g (g (a + 1))) n 0 with q | ⟨p, -, hp, q⟩
            · rw [if_pos q]; exact Or.inl rfl
            · rw [q, if_neg (fun z => m1_nI (by omega) z.symm)]
              exact Or.inr (Or.inr ⟨p, by omega, rfl⟩)
      generalize nsc g (B 2) (g 1) n (a + 1) = s at hs hs2 ⊢
      refine xG.go [1, 11, 14, 19, 37, 47, 66, 78, 82, 90, 98] 60 ?_
      show ((s = (-2 : Int32) → (((0 : Int32) = (0 : Int32) ∨ (0 : Int32) = 1) ∧ Q (.inl (some (.int (0 : Int32)))) (HX (va_up (va_up I 7 (nI (g 1))) 8 (nI (a + 1 + 1))) (va_up A 23 f) B) 0)) ∧ (¬ s = (-2 : Int32) → xG tb_R_placeClass Q (66, [some (.ref 22), some (.long t), none, some (.int s), none, none], [.ref 22, .int s, .long t, .ref 1], (HX (va_up (va_up I 7 (nI (g 1))) 8 (nI (a + 1 + 1))) (va_up A 23 f) B), 0)))
      refine ⟨fun w2 => ⟨Or.inl rfl, h0 _ _ _ (kw0 _ _ _) (fun As Bs m v ft => ?_)⟩, fun w2 => ?_⟩
      · have e4 := hs As Bs m v ft
        rw [w2] at e4
        rcases v.2.2.1 with q | ⟨p, hp, q⟩
        · exact absurd (q.symm.trans e4) (by decide)
        · exact nI_pos (n := p) (by omega) (by rw [← q, e4]; decide)
      · have hs3 : s = -1 ∨ ∃ p, p < n ∧ s = nI p := hs2.elim (fun q => absurd q w2) id
        refine xG.callV (F := xRun tb_R_nextByte 1) (a := 22) rfl rfl rfl rfl (p_R_nextByte (I := va_up (va_up I 7 (nI (g 1))) 8 (nI (a + 1 + 1))) (A := va_up A 23 f) h rfl (by omega) ?_)
        rw [up_up]
        have hg2 := hg (a + 1 + 1)
        have key : ∀ b, b = (if g (a + 2) = 1 then (1 : Int32) else 0) → xG tb_R_placeClass Q (78, [some (.ref 22), some (.long t), none, some (.int s), none, none], [.int b, .int s, .long t, .ref 1], HX (va_up (va_up I 7 (nI (g 1))) 8 (nI (a + 3))) (va_up A 23 f) B, 0) := fun b eb => by
          have hb : b = 0 ∨ b = 1 := by
            rw [eb]
            split
            · exact Or.inr rfl
            · exact Or.inl rfl
          refine xG.callV (F := xRun tb_S_placeClass 5) (a := 1) rfl rfl rfl rfl (p_S_placeClass (I := va_up (va_up I 7 (nI (g 1))) 8 (nI (a + 3))) (A := va_up A 23 f) hn e0 hb (hs3.elim Or.inl (fun ⟨p, hp, q⟩ => Or.inr ⟨p, by omega, q⟩)) ?_)
          refine xG.go [1, 11, 14, 19, 37, 47, 66, 78, 82, 90, 98] 60 ?_
          show xG tb_R_placeClass Q (82, [some (.ref 22), some (.long t), none, some (.int s), none, none], [.ref 22], (HX (va_up (va_up I 7 (nI (g 1))) 8 (nI (a + 3))) (plA (va_up A 23 f) n s b) (plB B n t)), 0)
          refine xG.callV (F := xRun tb_R_nextByte 1) (a := 22) rfl rfl rfl rfl (p_R_nextByte (I := va_up (va_up I 7 (nI (g 1))) 8 (nI (a + 3))) (A := plA (va_up A 23 f) n s b) h rfl (by omega) ?_)
          rw [up_up]
          refine xG.go [1, 11, 14, 19, 37, 47, 66, 78, 82, 90, 98] 20 ?_
          show xG tb_R_placeClass Q (90, [some (.ref 22), some (.long t), none, some (.int s), some (.int (nI (g (a + 3)))), some (.int (nI 0))], [], HX (va_up (va_up I 7 (nI (g 1))) 8 (nI (a + 3 + 1))) (plA (va_up A 23 f) n s b) (plB B n t), 0)
          have hN1 : nOk (vp_updL (B 2) n t) (n + 1) := by
            refine ⟨fun j hj => ?_, fun i j hi hj => ?_⟩
            · by_cases q : j = n
              · rw [q, pk_uLs]; exact okT_cn hc
              · rw [pk_uLn q]; exact hN.1 j (by omega)
            · by_cases q : i = n
              · by_cases p : j = n
                · exact fun _ => q.trans p.symm
                · rw [q, pk_uLs, pk_uLn p]
                  exact fun z => absurd z.symm (hfr j (by omega) (by omega))
              · by_cases p : j = n
                · rw [p, pk_uLs, pk_uLn q]
                  exact fun z => absurd z (hfr i (by omega) (by omega))
                · rw [pk_uLn q, pk_uLn p]
                  exact hN.2 i j (by omega) (by omega)
          rw [← ha] at *
          refine p_R_place_l (I := I) (A := A) (B := B) (n := n) (t := t) (s := s) (b := b) hg hT hn e0 hN1 h h0 (fun I' A' B' q1 q2 => h1 t s b I' A' B' hc (fun j hj => hfr j (by omega) (by omega)) hs3 hb q1 q2) (g (sp g (g 1) + 3)) 0 _ _ _ (Nat.zero_add _) ?_ (fun As Bs m v ft => ⟨⟨ht As Bs m v ft, hs As Bs m v ft, ?_⟩, fun j hj => by omega⟩) hR rfl rfl
          · refine ⟨⟨fun j hj => (up_n (fun q => hj (by omega))).trans (up_n (fun q => hj (by omega))), fun r hr => ?_, fun r hr => ?_⟩, ⟨rfl, rfl, rfl, rfl, rfl⟩, ⟨fun x hx => ?_, ?_, by omega⟩, fun x hx => ⟨rfl, rfl, rfl, rfl⟩, fun j hj => by omega, fun j l hj => by omega⟩
            · unfold plA
              rw [up_n (fun q => hr (by omega)), up_n (fun q => hr (by omega)), up_n (fun q => hr (by omega)), up_n (fun q => hr (by omega)), up_n (fun q => hr (by omega))]
            · unfold plB
              rw [up_n (fun q => hr (by omega)), up_n (fun q => hr (by omega))]
            · show upd (A 6) n 0 x = A 6 x
              exact pk_un hx
            · show upd (A 6) n 0 n = nI 0
              exact pk_us
          · have e5 := ft.2.2.2.1
            have hv := v.2.2.2.1
            have hgz := hg (sp g (g 1) + 2)
            rw [eb, ← e5]
            rw [← e5] at hv
            rcases hv with q | q
            · have := (nI_eq (b := 0) (by omega) (by omega)).mp q
              rw [this]; rfl
            · have := (nI_eq (b := 1) (by omega) (by omega)).mp q
              rw [this]; rfl
        refine xG.go [1, 11, 14, 19, 37, 47, 66, 78, 82, 98] 60 ?_
        show (((nI (g (a + 1 + 1))) = (1 : Int32) → xG tb_R_placeClass Q (78, [some (.ref 22), some (.long t), none, some (.int s), none, none], [.int (1 : Int32), .int s, .long t, .ref 1], (HX (va_up (va_up I 7 (nI (g 1))) 8 (nI (a + 1 + 1 + 1))) (va_up A 23 f) B), 0)) ∧ (¬ (nI (g (a + 1 + 1))) = (1 : Int32) → xG tb_R_placeClass Q (78, [some (.ref 22), some (.long t), none, some (.int s), none, none], [.int (0 : Int32), .int s, .long t, .ref 1], (HX (va_up (va_up I 7 (nI (g 1))) 8 (nI (a + 1 + 1 + 1))) (va_up A 23 f) B), 0)))
        refine ⟨fun z => key 1 ?_, fun z => key 0 ?_⟩
        · rw [if_pos ((nI_eq (b := 1) (by omega) (by omega)).mp z)]
        · rw [if_neg (fun w => z (by rw [w]; rfl))]
