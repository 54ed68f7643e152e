-- what a class's file tells
def lk (p : List (List Int32)) (i : Int32) (x : List Int32) : Prop := ∃ q, p[q]? = some x ∧ i = nI (q + 1)
theorem kn_at {x : List Int32} : ∀ {p : List (List Int32)}, kn x p < p.length → p[kn x p]? = some x
  | [], h => by exact absurd h (Nat.not_lt_zero _)
  | y :: p, h => by
    unfold kn at h ⊢
    by_cases w : y = x
    · rw [if_pos w, w]; rfl
    · rw [if_neg w, List.length_cons] at h
      rw [if_neg w, List.getElem?_cons_succ]
      exact kn_at (by omega)
theorem lk_mono {p : List (List Int32)} {i : Int32} {x y : List Int32} (h : lk p i x) : lk (addP p y) i x := by
  obtain ⟨q, h1, h2⟩ := h
  refine ⟨q, ?_, h2⟩
  unfold addP
  split
  · exact h1
  · have hq : q < p.length := (List.getElem?_eq_some_iff.mp h1).1
    rw [List.getElem?_append_left hq]
    exact h1
theorem lk_new {p : List (List Int32)} {x : List Int32} : lk (addP p x) (nI (kn x p + 1)) x := by
  refine ⟨kn x p, ?_, rfl⟩
  unfold addP
  split
  · rename_i h
    exact kn_at h
  · rename_i h
    have := kn_le x p
    have e : kn x p = p.length := by omega
    rw [e, List.getElem?_append_right (Nat.le_refl _), Nat.sub_self]
    rfl
/-- the texts used, and their places -/
abbrev US (As : Nat → Nat → Int32) (Bs : Nat → Nat → Int64) (n : Nat) (s : fst_) (j : Nat) : Prop :=
  ∃ f : Nat → Int32, s.2 = f 0 :: f 1 :: n01 (As 5 n) :: As 6 n :: emL f (fun i => n01 (As 11 (8 * n + i))) 0 j ∧ lk s.1 (f 0) (tx (Bs 2 n)) ∧ ((As 4 n = -1 ∧ f 1 = 0) ∨ (¬ As 4 n = -1 ∧ lk s.1 (f 1) (tx (Bs 2 (As 4 n).toNatClampNeg)))) ∧
  (∀ i, i < j → lk s.1 (f (2 + 2 * i)) (tx (Bs 8 (8 * n + i))) ∧ lk s.1 (f (3 + 2 * i)) (dx (Bs 2) (Bs 10 (8 * n + i)))) ∧ ∀ x, x ∈ s.1 → 1 ≤ x.length
theorem mem_add {p : List (List Int32)} {x y : List Int32} (h : y ∈ addP p x) : y ∈ p ∨ y = x := by
  unfold addP at h
  split at h
  · exact Or.inl h
  · rcases List.mem_append.mp h with q | q
    · exact Or.inl q
    · exact Or.inr (List.mem_singleton.mp q)
theorem US_step {As : Nat → Nat → Int32} {Bs : Nat → Nat → Int64} {n j : Nat} {s : fst_} (h : US As Bs n s j) (h1 : 1 ≤ (tx (Bs 8 (8 * n + j))).length) (h2 : 1 ≤ (dx (Bs 2) (Bs 10 (8 * n + j))).length) : US As Bs n (opN (opT (opT s (tx (Bs 8 (8 * n + j)))) (dx (Bs 2) (Bs 10 (8 * n + j)))) (n01 (As 11 (8 * n + j)))) (j + 1) := by
  obtain ⟨f, e, k0, k1, km, kx⟩ := h
  generalize hi1 : nI (kn (tx (Bs 8 (8 * n + j))) s.1 + 1) = i1
  generalize hi2 : nI (kn (dx (Bs 2) (Bs 10 (8 * n + j))) (opT s (tx (Bs 8 (8 * n + j)))).1 + 1) = i2
  refine ⟨upd (upd f (2 + 2 * j) i1) (3 + 2 * j) i2, ?_, ?_, ?_, fun i hi => ?_, fun x hx => ?_⟩
  · show (s.2 ++ [nI (kn (tx (Bs 8 (8 * n + j))) s.1 + 1)]) ++ [nI (kn (dx (Bs 2) (Bs 10 (8 * n + j))) (opT s (tx (Bs 8 (8 * n + j)))).1 + 1)] ++ [n01 (As 11 (8 * n + j))] = _
    rw [hi1, hi2, emL_snoc, Nat.zero_add, emL_upd j 0 (by omega), emL_upd j 0 (by omega), pk_un (by omega), pk_un (by omega), pk_un (by omega), pk_un (by omega), pk_us, pk_un (by omega), pk_us, e]
    simp only [List.append_assoc, List.cons_append, List.nil_append]
  · rw [pk_un (by omega), pk_un (by omega)]
    exact lk_mono (lk_mono k0)
  · rw [pk_un (by omega), pk_un (by omega)]
    exact k1.elim Or.inl (fun q => Or.inr ⟨q.1, lk_mono (lk_mono q.2)⟩)
  · by_cases w : i = j
    · subst w
      rw [pk_us, pk_un (by omega), pk_us, ← hi1, ← hi2]
      exact ⟨lk_mono lk_new, lk_new⟩
    · rw [pk_un (by omega), pk_un (by omega), pk_un (by omega), pk_un (by omega)]
      exact ⟨lk_mono (lk_mono (km i (by omega)).1), lk_mono (lk_mono (km i (by omega)).2)⟩
  · have hx' : x ∈ addP (addP s.1 (tx (Bs 8 (8 * n + j)))) (dx (Bs 2) (Bs 10 (8 * n + j))) := hx
    rcases mem_add hx' with q | q
    · rcases mem_add q with p | p
      · exact kx x p
      · rw [p]; exact h1
    · rw [q]; exact h2
theorem US_M {As : Nat → Nat → Int32} {Bs : Nat → Nat → Int64} {n m : Nat} (h1 : ∀ j, j < m → 1 ≤ (tx (Bs 8 (8 * n + j))).length ∧ 1 ≤ (dx (Bs 2) (Bs 10 (8 * n + j))).length) : ∀ (k j : Nat) (s : fst_), j + k = m → US As Bs n s j → US As Bs n (clM As Bs n k j s) m
  | 0, j, s, e, h => by
    have e' : j = m := by omega
    subst e'
    exact h
  | k + 1, j, s, e, h => US_M h1 k (j + 1) _ (by omega) (US_step h (h1 j (by omega)).1 (h1 j (by omega)).2)
theorem tx_pos {t : Int64} (h : okT t) : 1 ≤ (tx t).length := by
  rw [tx_len]
  exact (okT_len h).1
theorem dx_pos {N : Nat → Int64} {d : Int64} {l : Nat} (h : dOne d l = true) : 1 ≤ (dx N d).length := by
  obtain ⟨h1, -, -⟩ := dOne_chars h
  unfold dx
  rw [show tlen d = (tlen d - 1) + 1 by omega]
  rcases Nat.eq_zero_or_pos (dxF N d 0 (tlen d - 1 + 1)).length with q | q
  · exact absurd (List.length_eq_zero_iff.mp q) dxF_ne
  · exact q
theorem US_F {N : Nat → Int64} {As : Nat → Nat → Int32} {Bs : Nat → Nat → Int64} {n m : Nat} (hN : ∀ j, j < n → okT (N j)) (hn : n < 8) (v : vK N n As Bs m) : US As Bs n (clF As Bs n m) m := by
  obtain ⟨v1, ⟨v2, v2'⟩, v3, v4, ⟨v5, v6⟩, v7, v8⟩ := v
  have hc : 1 ≤ (tx (Bs 2 n)).length := tx_pos (okT_cn v1)
  have h1 : ∀ j, j < m → 1 ≤ (tx (Bs 8 (8 * n + j))).length ∧ 1 ≤ (dx (Bs 2) (Bs 10 (8 * n + j))).length := fun j hj => ⟨tx_pos (okT_id (v7 j hj).1), dx_pos (v7 j hj).2.1⟩
  refine US_M h1 m 0 (cl0 As Bs n) (Nat.zero_add m) ?_
  unfold cl0 cl1
  by_cases w : As 4 n = -1
  · rw [if_pos w]
    refine ⟨fun i => if i = 0 then nI (kn (tx (Bs 2 n)) [] + 1) else 0, rfl, (lk_new : lk (addP [] (tx (Bs 2 n))) (nI (kn (tx (Bs 2 n)) [] + 1)) (tx (Bs 2 n))), Or.inl ⟨w, rfl⟩, fun i hi => by omega, fun x hx => ?_⟩
    have hx' : x ∈ addP [] (tx (Bs 2 n)) := hx
    rcases mem_add hx' with q | q
    · cases q
    · rw [q]; exact hc
  · rw [if_neg w]
    obtain ⟨p, hp, ep⟩ : ∃ p, p < n ∧ As 4 n = nI p := v3.elim (fun q => absurd q w) id
    rw [ep, nI_clamp (by omega)]
    refine ⟨fun i => if i = 0 then nI (kn (tx (Bs 2 n)) [] + 1) else nI (kn (tx (Bs 2 p)) (opT ([], []) (tx (Bs 2 n))).1 + 1), rfl, lk_mono (lk_new : lk (addP [] (tx (Bs 2 n))) (nI (kn (tx (Bs 2 n)) [] + 1)) (tx (Bs 2 n))), Or.inr ⟨w, ?_⟩, fun i hi => by omega, fun x hx => ?_⟩
    · rw [ep, nI_clamp (by omega)]
      exact lk_new
    · have hx' : x ∈ addP (addP [] (tx (Bs 2 n))) (tx (Bs 2 p)) := hx
      rcases mem_add hx' with q | q
      · rcases mem_add q with r | r
        · cases r
        · rw [r]; exact hc
      · rw [q, v2 p hp]; exact tx_pos (hN p hp)
theorem em_at {G f g : Nat → Int32} : ∀ (k o i : Nat), rd G o (3 * k) = emL f g i k → ∀ j, j < k → G (o + 3 * j) = f (2 + 2 * (i + j)) ∧ G (o + 3 * j + 1) = f (3 + 2 * (i + j)) ∧ G (o + 3 * j + 2) = g (i + j)
  | 0, o, i, h, j, hj => by omega
  | k + 1, o, i, h, j, hj => by
    rw [show 3 * (k + 1) = 3 * k + 1 + 1 + 1 by omega] at h
    have h' : G o :: G (o + 1) :: G (o + 1 + 1) :: rd G (o + 1 + 1 + 1) (3 * k) = f (2 + 2 * i) :: f (3 + 2 * i) :: g i :: emL f g (i + 1) k := h
    obtain ⟨e1, h2⟩ := List.cons.inj h'
    obtain ⟨e2, h3⟩ := List.cons.inj h2
    obtain ⟨e3, h4⟩ := List.cons.inj h3
    cases j with
    | zero => exact ⟨e1, e2, e3⟩
    | succ j =>
      have := em_at k (o + 1 + 1 + 1) (i + 1) h4 j (by omega)
      rw [show o + 1 + 1 + 1 + 3 * j = o + 3 * (j + 1) by omega, show i + 1 + j = i + (j + 1) by omega] at this
      exact this
/-- the places of the pool's texts in a file -/
theorem sp_file {g : Nat → Nat} {sz : Nat} {pl : List (List Int32)} {bh : List Int32} (hg : ∀ i, g i < 256) (hx : ∀ x, x ∈ pl → x.length ≤ 62) (h : rd (fun i => nI (g i)) 0 sz = (202 :: nI pl.length :: fl pl) ++ bh) : ∀ q, q ≤ pl.length → sp g q = 2 + (fl (pl.take q)).length ∧ ∀ (hq : q < pl.length), g (sp g q) = pl[q].length ∧ txt g (q + 1) = pl[q] := by
  have key : ∀ q (hq : q < pl.length), g (2 + (fl (pl.take q)).length) = pl[q].length ∧ rd (fun i => nI (g i)) (2 + (fl (pl.take q)).length + 1) pl[q].length = pl[q] := fun q hq => by
    have h3 : rd (fun i => nI (g i)) 0 sz = (202 :: nI pl.length :: fl (pl.take q)) ++ ((nI pl[q].length :: pl[q]) ++ (fl (pl.drop (q + 1)) ++ bh)) := by
      rw [h]
      conv => lhs; rw [fl_split hq]
      simp only [List.cons_append, List.append_assoc]
    have hlen := congrArg List.length h3
    rw [rd_len] at hlen
    have h4 := rd_pre (f := fun i => nI (g i)) (o := 0) (X := 202 :: nI pl.length :: fl (pl.take q)) (Y := (nI pl[q].length :: pl[q]) ++ (fl (pl.drop (q + 1)) ++ bh)) (by rw [← List.length_append, ← hlen]; exact h3)
    rw [List.length_cons, List.length_cons, show 0 + ((fl (pl.take q)).length + 1 + 1) = 2 + (fl (pl.take q)).length by omega] at h4
    have h5 := h4.2
    rw [List.length_append] at h5
    have h6 := (rd_pre h5).1
    rw [List.length_cons] at h6
    obtain ⟨e1, e2⟩ := List.cons.inj h6
    have hxq := hx pl[q] (List.getElem_mem hq)
    exact ⟨(nI_eq (by have := hg (2 + (fl (pl.take q)).length); omega) (by omega)).mp e1, e2⟩
  intro q
  induction q with
  | zero =>
    intro _
    refine ⟨rfl, fun hq => ?_⟩
    obtain ⟨k1, k2⟩ := key 0 hq
    have k1' : g 2 = pl[0].length := k1
    refine ⟨k1', ?_⟩
    show rd (fun i => nI (g (2 + 1 + i))) 0 (g 2) = _
    rw [k1', ← k2, rd_len]
    exact rd_eq _ _ _ (fun i hi => by rw [Nat.zero_add]; rfl)
  | succ q ih =>
    intro hle
    obtain ⟨i1, i2⟩ := ih (by omega)
    obtain ⟨i3, i4⟩ := i2 (by omega)
    have es : sp g (q + 1) = 2 + (fl (pl.take (q + 1))).length := by
      show sp g q + 1 + g (sp g q) = _
      rw [i3, i1]
      have et : pl.take (q + 1) = pl.take q ++ [pl[q]'(by omega)] := by rw [List.take_append_getElem]
      rw [et, fl_app, fl_1, List.length_append, List.length_cons]
      omega
    refine ⟨es, fun hq => ?_⟩
    obtain ⟨k1, k2⟩ := key (q + 1) hq
    rw [← es] at k1 k2
    refine ⟨k1, ?_⟩
    show rd (fun i => nI (g (sp g (q + 1) + 1 + i))) 0 (g (sp g (q + 1))) = _
    rw [k1, ← k2, rd_len]
    exact rd_eq _ _ _ (fun i hi => by rw [Nat.zero_add])
/-- the parts of a file -/
theorem file_parts {g : Nat → Nat} {sz : Nat} {N : Nat → Int64} {As : Nat → Nat → Int32} {Bs : Nat → Nat → Int64} {n m : Nat} (hg : ∀ i, g i < 256) (hn : n < 8) (hN : ∀ j, j < n → okT (N j)) (v : vK N n As Bs m) (h : rd (fun i => nI (g i)) 0 sz = fileL (clF As Bs n m)) :
    ∃ (pl : List (List Int32)) (f : Nat → Int32), (clF As Bs n m).1 = pl ∧ (∀ x, x ∈ pl → 1 ≤ x.length ∧ x.length ≤ 62) ∧ (1 ≤ pl.length ∧ pl.length ≤ 14) ∧ g 0 = 202 ∧ g 1 = pl.length ∧ sz = 2 + (fl pl).length + (4 + 3 * m) ∧ (∀ q, q ≤ pl.length → sp g q = 2 + (fl (pl.take q)).length ∧ ∀ (hq : q < pl.length), g (sp g q) = pl[q].length ∧ txt g (q + 1) = pl[q]) ∧
    (nI (g (sp g (g 1))) = f 0 ∧ nI (g (sp g (g 1) + 1)) = f 1 ∧ nI (g (sp g (g 1) + 2)) = As 5 n ∧ g (sp g (g 1) + 3) = m) ∧ (∀ j, j < m → nI (g (sp g (g 1) + 4 + 3 * j)) = f (2 + 2 * j) ∧ nI (g (sp g (g 1) + 4 + 3 * j + 1)) = f (3 + 2 * j) ∧ nI (g (sp g (g 1) + 4 + 3 * j + 2)) = As 11 (8 * n + j)) ∧
    lk pl (f 0) (tx (Bs 2 n)) ∧ ((As 4 n = -1 ∧ f 1 = 0) ∨ (¬ As 4 n = -1 ∧ lk pl (f 1) (tx (Bs 2 (As 4 n).toNatClampNeg)))) ∧ (∀ i, i < m → lk pl (f (2 + 2 * i)) (tx (Bs 8 (8 * n + i))) ∧ lk pl (f (3 + 2 * i)) (dx (Bs 2) (Bs 10 (8 * n + i)))) := by
  have hf : fOk As Bs n m := ⟨hn, v.2.2.1.elim Or.inl (fun ⟨p, hp, e⟩ => Or.inr ⟨p, by omega, e⟩), v.2.2.2.2.1.2, v.2.2.2.2.1.1, fun j hj => dx_len (dOne_ok (by omega) (v.2.2.2.2.2.1 j hj).2.1)⟩
  obtain ⟨f, e, k0, k1, km, kx⟩ := US_F hN hn v
  have hs := (gl_file hf).2
  unfold fileL at h
  rw [e] at h
  have hx62 : ∀ x, x ∈ (clF As Bs n m).1 → 1 ≤ x.length ∧ x.length ≤ 62 := fun x hx => ⟨kx x hx, (hs.2.2 x hx).1⟩
  have hl14 := hs.1
  have n5 : n01 (As 5 n) = As 5 n := by
    rcases v.2.2.2.1 with q | q
    · rw [q]; rfl
    · rw [q]; rfl
  have n11 : ∀ j, j < m → n01 (As 11 (8 * n + j)) = As 11 (8 * n + j) := fun j hj => by
    rcases (v.2.2.2.2.2.1 j hj).2.2 with q | q
    · rw [q]; rfl
    · rw [q]; rfl
  generalize (clF As Bs n m).1 = pl at h hx62 hl14 k0 k1 km
  have emlen : ∀ (f g : Nat → Int32) (k i : Nat), (emL f g i k).length = 3 * k := fun f g k => by
    induction k with
    | zero => exact fun i => rfl
    | succ k ih =>
      intro i
      show (emL f g (i + 1) k).length + 1 + 1 + 1 = _
      rw [ih]
      omega
  have hlen := congrArg List.length h
  rw [rd_len, List.length_append, List.length_cons, List.length_cons, List.length_cons, List.length_cons, List.length_cons, List.length_cons, emlen] at hlen
  have hsp := sp_file hg (fun x hx => (hx62 x hx).2) h
  have hfull := rd_pre (f := fun i => nI (g i)) (o := 0) (X := 202 :: nI pl.length :: fl pl) (Y := f 0 :: f 1 :: n01 (As 5 n) :: As 6 n :: emL f (fun i => n01 (As 11 (8 * n + i))) 0 m) (by rw [← List.length_append, ← h, rd_len])
  have e01 : nI (g 0) = 202 ∧ nI (g 1) = nI pl.length := by
    have := hfull.1
    rw [List.length_cons, List.length_cons] at this
    obtain ⟨a1, a2⟩ := List.cons.inj this
    exact ⟨a1, (List.cons.inj a2).1⟩
  have hg0 := hg 0
  have hg1 := hg 1
  have e1 : g 1 = pl.length := (nI_eq (by omega) (by omega)).mp e01.2
  have ea : sp g (g 1) = 2 + (fl pl).length := by
    rw [e1, (hsp pl.length (Nat.le_refl _)).1, List.take_length]
  have hb := hfull.2
  rw [List.length_cons, List.length_cons, List.length_cons, List.length_cons, List.length_cons, List.length_cons, emlen, show 0 + ((fl pl).length + 1 + 1) = sp g (g 1) by omega] at hb
  obtain ⟨b1, hb⟩ := List.cons.inj hb
  obtain ⟨b2, hb⟩ := List.cons.inj hb
  obtain ⟨b3, hb⟩ := List.cons.inj hb
  obtain ⟨b4, hb⟩ := List.cons.inj hb
  have hem := em_at m _ 0 hb
  have hg3 := hg (sp g (g 1) + 3)
  refine ⟨pl, f, rfl, hx62, ⟨?_, hl14⟩, (nI_eq (b := 202) (by omega) (by omega)).mp e01.1, e1, by omega, hsp, ⟨b1, b2, b3.trans n5, ?_⟩, fun j hj => ?_, k0, k1, km⟩
  · obtain ⟨q, q1, -⟩ := k0
    have := (List.getElem?_eq_some_iff.mp q1).1
    omega
  · have : nI (g (sp g (g 1) + 3)) = nI m := b4.trans v.2.2.2.2.1.1
    exact (nI_eq (by omega) (by have := v.2.2.2.2.1.2; omega)).mp this
  · obtain ⟨c1, c2, c3⟩ := hem j hj
    rw [Nat.zero_add] at c1 c2 c3
    exact ⟨c1, c2, c3.trans (n11 j hj)⟩
/-- where the bytes are a class's file, the reader is told that class -/
theorem TG_FT {g : Nat → Nat} {sz : Nat} {N : Nat → Int64} {As : Nat → Nat → Int32} {Bs : Nat → Nat → Int64} {n m : Nat} (hg : ∀ i, g i < 256) (hn : n < 8) (hN : ∀ j, j < n → okT (N j)) (v : vK N n As Bs m) (h : rd (fun i => nI (g i)) 0 sz = fileL (clF As Bs n m)) : FT g sz N n As Bs m := by
  obtain ⟨pl, f, -, hx, ⟨l1, l2⟩, -, e1, esz, hsp, ⟨b0, b1, b2, b3⟩, bm, k0, k1, km⟩ := file_parts hg hn hN v h
  have es : sp g (g 1) = 2 + (fl pl).length := by
    rw [e1, (hsp pl.length (Nat.le_refl _)).1, List.take_length]
  have use : ∀ (a : Nat) (i : Int32) (x : List Int32), nI (g a) = i → lk pl i x → (¬ g a = 0 ∧ g a ≤ g 1) ∧ txt g (g a) = x := fun a i x hi hl => by
    obtain ⟨q, q1, q2⟩ := hl
    obtain ⟨hq, q3⟩ := List.getElem?_eq_some_iff.mp q1
    have hga := hg a
    have e : g a = q + 1 := (nI_eq (by omega) (by omega)).mp (hi.trans q2)
    refine ⟨⟨by omega, by omega⟩, ?_⟩
    rw [e, ((hsp q (by omega)).2 hq).2, q3]
  refine ⟨⟨by omega, by omega⟩, ⟨(use _ _ _ b0 k0).1.2, (use _ _ _ b0 k0).2⟩, ?_, b2, b3, fun j hj => ?_⟩
  · rcases k1 with ⟨q1, q2⟩ | ⟨q1, q2⟩
    · have hga := hg (sp g (g 1) + 1)
      exact Or.inl ⟨q1, (nI_eq (b := 0) (by omega) (by omega)).mp (b1.trans q2)⟩
    · obtain ⟨p, hp, ep⟩ : ∃ p, p < n ∧ As 4 n = nI p := v.2.2.1.elim (fun q => absurd q q1) id
      rw [ep, nI_clamp (by omega), v.2.1.1 p hp] at q2
      obtain ⟨⟨u1, u2⟩, u3⟩ := use _ _ _ b1 q2
      exact Or.inr ⟨p, hp, ep, u1, u2, u3⟩
  · obtain ⟨c1, c2, c3⟩ := bm j hj
    obtain ⟨d1, d2⟩ := km j hj
    exact ⟨⟨(use _ _ _ c1 d1).1.2, (use _ _ _ c1 d1).2⟩, ⟨(use _ _ _ c2 d2).1.2, (use _ _ _ c2 d2).2⟩, c3⟩
