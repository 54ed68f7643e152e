-- the reference's reader: members and classes
/-- all that a file has -/
abbrev TF (g : Nat → Nat) (sz : Nat) (N : Nat → Int64) (n : Nat) (As : Nat → Nat → Int32) (Bs : Nat → Nat → Int64) (m : Nat) : Prop := FT g sz N n As Bs m ∧ PT g sz ∧ sz = sp g (g 1) + 4 + 3 * m
theorem TG_TF {g : Nat → Nat} {sz : Nat} {N : Nat → Int64} {As : Nat → Nat → Int32} {Bs : Nat → Nat → Int64} {n m : Nat} (hg : ∀ i, g i < 256) (hn : n < 8) (hN : ∀ j, j < n → okT (N j)) (v : vK N n As Bs m) (h : rd (fun i => nI (g i)) 0 sz = fileL (clF As Bs n m)) : TF g sz N n As Bs m := by
  have ft := TG_FT hg hn hN v h
  obtain ⟨pl, f, -, hx, ⟨l1, l2⟩, e0, e1, esz, hsp, -⟩ := file_parts hg hn hN v h
  have es : sp g (g 1) = 2 + (fl pl).length := by
    rw [e1, (hsp pl.length (Nat.le_refl _)).1, List.take_length]
  refine ⟨ft, ⟨⟨by omega, e0⟩, ⟨by omega, by omega, by omega⟩, by omega, fun q hq => ?_⟩, by omega⟩
  rw [e1] at hq
  rw [((hsp q (by omega)).2 hq).1]
  exact hx _ (List.getElem_mem hq)
abbrev PM (I : Nat → Int32) (A : Nat → Nat → Int32) (B : Nat → Nat → Int64) (n : Nat) (t : Int64) (s b : Int32) (k : Nat) (I' : Nat → Int32) (A' : Nat → Nat → Int32) (B' : Nat → Nat → Int64) : Prop :=
  ((∀ j, ¬ (j = 13 ∨ j = 15) → I' j = I j) ∧ (∀ r, ¬ (r = 27 ∨ r = 28 ∨ r = 29 ∨ r = 33 ∨ r = 37 ∨ r = 38) → A' r = A r) ∧ (∀ r, ¬ (r = 25 ∨ r = 26 ∨ r = 30 ∨ r = 31 ∨ r = 32) → B' r = B r)) ∧
  (A' 27 = upd (A 27) n s ∧ A' 28 = upd (A 28) n b ∧ B' 25 = vp_updL (B 25) n t ∧ B' 26 = vp_updL (B 26) n t) ∧
  ((∀ x, ¬ x = n → A' 29 x = A 29 x) ∧ A' 29 n = nI k ∧ k ≤ 6) ∧
  (∀ x, x < 8 * n → A' 33 x = A 33 x ∧ B' 30 x = B 30 x ∧ B' 31 x = B 31 x ∧ B' 32 x = B 32 x) ∧
  (∀ j, j < k → isId (B' 30 (8 * n + j)) = true ∧ dOne (B' 32 (8 * n + j)) (n + 1) = true ∧ (A' 33 (8 * n + j) = 0 ∨ A' 33 (8 * n + j) = 1) ∧ B' 31 (8 * n + j) = B' 30 (8 * n + j)) ∧
  (∀ j l, j < k → l < k → B' 30 (8 * n + j) = B' 30 (8 * n + l) → B' 32 (8 * n + j) = B' 32 (8 * n + l) → j = l)
theorem PM_step {I : Nat → Int32} {A : Nat → Nat → Int32} {B : Nat → Nat → Int64} {n : Nat} {t t' d' : Int64} {s b b' x : Int32} {k : Nat} {I' : Nat → Int32} {A' : Nat → Nat → Int32} {B' : Nat → Nat → Int64} (h : PM I A B n t s b k I' A' B') (hk : k < 6) (ht : isId t' = true) (hd : dOne d' (n + 1) = true) (hb : b' = 0 ∨ b' = 1) (ho : ∀ j, j < k → ¬ (B' 30 (8 * n + j) = t' ∧ B' 32 (8 * n + j) = d')) : PM I A B n t s b (k + 1) (va_up I' 15 x) (qmA A' n k b') (qmB B' (8 * n + k) t' d') := by
  obtain ⟨⟨h1, h2, h3⟩, h4, ⟨h5, h6, h7⟩, h8, h9, h10⟩ := h
  refine ⟨⟨fun j hj => (up_n (fun q => hj (by omega))).trans (h1 j hj), fun r hr => ?_, fun r hr => ?_⟩, h4, ⟨fun y hy => ?_, ?_, by omega⟩, fun y hy => ?_, fun j hj => ?_, fun j l hj hl => ?_⟩
  · unfold qmA
    rw [up_n (fun q => hr (by omega)), up_n (fun q => hr (by omega))]
    exact h2 r hr
  · unfold qmB
    rw [up_n (fun q => hr (by omega)), up_n (fun q => hr (by omega)), up_n (fun q => hr (by omega))]
    exact h3 r hr
  · show upd (A' 29) n (nI (k + 1)) y = A 29 y
    rw [pk_un hy]
    exact h5 y hy
  · show upd (A' 29) n (nI (k + 1)) n = _
    exact pk_us
  · show upd (A' 33) (8 * n + k) b' y = A 33 y ∧ vp_updL (B' 30) (8 * n + k) t' y = B 30 y ∧ vp_updL (B' 31) (8 * n + k) t' y = B 31 y ∧ vp_updL (B' 32) (8 * n + k) d' y = B 32 y
    rw [pk_un (by omega), pk_uLn (by omega), pk_uLn (by omega), pk_uLn (by omega)]
    exact h8 y hy
  · show isId (vp_updL (B' 30) (8 * n + k) t' (8 * n + j)) = true ∧ dOne (vp_updL (B' 32) (8 * n + k) d' (8 * n + j)) (n + 1) = true ∧ (upd (A' 33) (8 * n + k) b' (8 * n + j) = 0 ∨ upd (A' 33) (8 * n + k) b' (8 * n + j) = 1) ∧ vp_updL (B' 31) (8 * n + k) t' (8 * n + j) = vp_updL (B' 30) (8 * n + k) t' (8 * n + j)
    by_cases w : j = k
    · rw [w, pk_uLs, pk_uLs, pk_uLs, pk_us]
      exact ⟨ht, hd, hb, rfl⟩
    · rw [pk_uLn (by omega), pk_uLn (by omega), pk_uLn (by omega), pk_un (by omega)]
      exact h9 j (by omega)
  · show vp_updL (B' 30) (8 * n + k) t' (8 * n + j) = vp_updL (B' 30) (8 * n + k) t' (8 * n + l) → vp_updL (B' 32) (8 * n + k) d' (8 * n + j) = vp_updL (B' 32) (8 * n + k) d' (8 * n + l) → j = l
    by_cases w : j = k
    · by_cases z : l = k
      · exact fun _ _ => w.trans z.symm
      · rw [w, pk_uLs, pk_uLs, pk_uLn (by omega), pk_uLn (by omega)]
        exact fun q1 q2 => absurd ⟨q1.symm, q2.symm⟩ (ho l (by omega))
    · by_cases z : l = k
      · rw [z, pk_uLs, pk_uLs, pk_uLn (by omega), pk_uLn (by omega)]
        exact fun q1 q2 => absurd ⟨q1, q2⟩ (ho j (by omega))
      · rw [pk_uLn (by omega), pk_uLn (by omega), pk_uLn (by omega), pk_uLn (by omega)]
        exact h10 j l (by omega) (by omega)
abbrev KM (I : Nat → Int32) (A : Nat → Nat → Int32) (B : Nat → Nat → Int64) (n : Nat) (I' : Nat → Int32) (A' : Nat → Nat → Int32) (B' : Nat → Nat → Int64) : Prop :=
  (∀ j, ¬ (j = 13 ∨ j = 15) → I' j = I j) ∧ (∀ r, ¬ (r = 27 ∨ r = 28 ∨ r = 29 ∨ r = 33 ∨ r = 37 ∨ r = 38) → A' r = A r) ∧ (∀ r, ¬ (r = 25 ∨ r = 26 ∨ r = 30 ∨ r = 31 ∨ r = 32) → B' r = B r) ∧
  (∀ x, ¬ x = n → A' 27 x = A 27 x ∧ A' 28 x = A 28 x ∧ A' 29 x = A 29 x ∧ B' 25 x = B 25 x ∧ B' 26 x = B 26 x) ∧
  (∀ x, x < 8 * n → A' 33 x = A 33 x ∧ B' 30 x = B 30 x ∧ B' 31 x = B 31 x ∧ B' 32 x = B 32 x)
theorem PM_KM {I : Nat → Int32} {A : Nat → Nat → Int32} {B : Nat → Nat → Int64} {n : Nat} {t : Int64} {s b : Int32} {k : Nat} {I' : Nat → Int32} {A' : Nat → Nat → Int32} {B' : Nat → Nat → Int64} (h : PM I A B n t s b k I' A' B') : KM I A B n I' A' B' := by
  obtain ⟨⟨h1, h2, h3⟩, ⟨e4, e5, e2, e3⟩, ⟨h5, h6, h7⟩, h8, h9, h10⟩ := h
  refine ⟨h1, h2, h3, fun x hx => ⟨?_, ?_, h5 x hx, ?_, ?_⟩, h8⟩
  · rw [e4, pk_un hx]
  · rw [e5, pk_un hx]
  · rw [e2, pk_uLn hx]
  · rw [e3, pk_uLn hx]
abbrev SPm (g : Nat → Nat) (sz : Nat) (N : Nat → Int64) (n : Nat) (t : Int64) (s b : Int32) (k : Nat) (A' : Nat → Nat → Int32) (B' : Nat → Nat → Int64) : Prop :=
  ∀ As Bs m, vK N n As Bs m → TF g sz N n As Bs m → (Bs 2 n = t ∧ As 4 n = s ∧ As 5 n = b) ∧ ∀ j, j < k → j < m → Bs 8 (8 * n + j) = B' 30 (8 * n + j) ∧ Bs 10 (8 * n + j) = B' 32 (8 * n + j) ∧ As 11 (8 * n + j) = A' 33 (8 * n + j)
theorem txt_pos {g : Nat → Nat} {t : Nat} {x : List Int32} (h : txt g t = x) (hx : 1 ≤ x.length) : 1 ≤ t := by
  rw [← h, rd_len] at hx
  exact tl_pos (g := g) (by omega)
set_option maxRecDepth 100000 in
theorem p_M_rm_l {I : Nat → Int32} {A : Nat → Nat → Int32} {B : Nat → Nat → Int64} {Q : xQ} {sz n : Nat} {g : Nat → Nat} {t : Int64} {s b : Int32} (hY : MY I A sz g) (hT : g 1 ≤ 14) (hn : n < 8) (e10 : I 10 = nI n) (hN : nOk (vp_updL (B 25) n t) (n + 1)) (h6 : g (sp g (g 1) + 3) ≤ 6)
    (h0 : ∀ I' A' B', KM I A B n I' A' B' → (∀ As Bs m, vK (B 25) n As Bs m → ¬ TF g sz (B 25) n As Bs m) → Q (.inl (some (.int 0))) (HX I' A' B') 0)
    (h1 : ∀ I' A' B', PM I A B n t s b (g (sp g (g 1) + 3)) I' A' B' → SPm g sz (B 25) n t s b (g (sp g (g 1) + 3)) A' B' → Q (.inl (some (.int 1))) (HX I' A' B') 0) : ∀ (c k : Nat) (I' : Nat → Int32) (A' : Nat → Nat → Int32) (B' : Nat → Nat → Int64) (w3 w4 w5 w6 w7 : Option Value), k + c = g (sp g (g 1) + 3) → PM I A B n t s b k I' A' B' → SPm g sz (B 25) n t s b k A' B' → MT I' A' g (g 1) → I' 15 = nI (sp g (g 1) + 4 + 3 * k) → (w3 = none ∨ True) → xG tb_M_readMembers Q (2, [some (.ref 24), some (.int (nI (g (sp g (g 1) + 3)))), some (.int (nI k)), w3, w4, w5, w6, w7], [], HX I' A' B', 0)
  | 0, k, I', A', B', w3, w4, w5, w6, w7, e, hP, hs, hM, e15, _ => by
    have hsp := sp_le hY.2.2.1 (g 1)
    have hz := hY.2.1
    refine xG.go [2, 9, 12, 18, 21, 27, 34, 43, 68, 95] 60 ?_
    show (((nI (g (sp g (g 1) + 3))) ≤ (nI k) → (((I' 15) = (I' 11) → (((1 : Int32) = (0 : Int32) ∨ (1 : Int32) = 1) ∧ Q (.inl (some (.int (1 : Int32)))) (HX I' A' B') 0)) ∧ (¬ (I' 15) = (I' 11) → (((0 : Int32) = (0 : Int32) ∨ (0 : Int32) = 1) ∧ Q (.inl (some (.int (0 : Int32)))) (HX I' A' B') 0)))) ∧ (¬ (nI (g (sp g (g 1) + 3))) ≤ (nI k) → xG tb_M_readMembers Q (9, [some (.ref 24), some (.int (nI (g (sp g (g 1) + 3)))), some (.int (nI k)), w3, w4, w5, w6, w7], [.ref 24, .ref 24], (HX I' A' B'), 0)))
    rw [e15, hP.1.1 11 (by omega), hY.1]
    obtain rfl : k = g (sp g (g 1) + 3) := by omega
    refine br_y (nI_le (by omega) (by omega)) ⟨fun z => ⟨Or.inr rfl, h1 I' A' B' hP hs⟩, fun z => ⟨Or.inl rfl, h0 I' A' B' (PM_KM hP) (fun As Bs m v tf => z ?_)⟩⟩
    have e1 := tf.2.2
    have e2 := tf.1.2.2.2.2.1
    rw [e2]
    exact congrArg nI e1.symm
  | c + 1, k, I', A', B', w3, w4, w5, w6, w7, e, hP, hs, hM, e15, _ => by
    have hsp := sp_le hY.2.2.1 (g 1)
    have hz := hY.2.1
    have hg := hY.2.2.1
    have hP' := hP
    obtain ⟨⟨p1, p2, p3⟩, ⟨p4, p5, p7, p8⟩, ⟨p9, p10, p11⟩, p12, p13, p14⟩ := hP'
    have hMY : MY I' A' sz g := ⟨(p1 11 (by omega)).trans hY.1, hY.2.1, hg, fun i hi => by rw [p2 35 (by omega)]; exact hY.2.2.2 i hi⟩
    have hN' : nOk (B' 25) (n + 1) := by rw [p7]; exact hN
    have e10' : I' 10 = nI n := (p1 10 (by omega)).trans e10
    generalize ha : sp g (g 1) + 4 + 3 * k = a at *
    refine xG.go [2, 9, 12, 18, 21, 27, 34, 43, 68, 95] 60 ?_
    show (((nI (g (sp g (g 1) + 3))) ≤ (nI k) → (((I' 15) = (I' 11) → (((1 : Int32) = (0 : Int32) ∨ (1 : Int32) = 1) ∧ Q (.inl (some (.int (1 : Int32)))) (HX I' A' B') 0)) ∧ (¬ (I' 15) = (I' 11) → (((0 : Int32) = (0 : Int32) ∨ (0 : Int32) = 1) ∧ Q (.inl (some (.int (0 : Int32)))) (HX I' A' B') 0)))) ∧ (¬ (nI (g (sp g (g 1) + 3))) ≤ (nI k) → xG tb_M_readMembers Q (9, [some (.ref 24), some (.int (nI (g (sp g (g 1) + 3)))), some (.int (nI k)), w3, w4, w5, w6, w7], [.ref 24, .ref 24], (HX I' A' B'), 0)))
    refine br_n (nI_ge (by omega) (by omega)) ?_
    refine xG.callV (F := xRun tb_M_next 1) (a := 24) rfl rfl rfl rfl (p_M_next hMY e15 (by omega) ?_)
    refine xG.callV (F := xRun tb_M_textOf 5) (a := 24) rfl rfl rfl rfl (p_M_textOf (I := va_up I' 15 (nI (a + 1))) hg hM hT (fun tt htt => ?_))
    refine xG.go [2, 9, 12, 18, 21, 27, 34, 43, 68, 95] 60 ?_
    show xG tb_M_readMembers Q (18, [some (.ref 24), some (.int (nI (g (sp g (g 1) + 3)))), some (.int (nI k)), some (.long tt), none, w5, w6, w7], [.ref 24, .ref 24], (HX (va_up I' 15 (nI (a + 1))) A' B'), 0)
    refine xG.callV (F := xRun tb_M_next 1) (a := 24) rfl rfl rfl rfl (p_M_next (I := va_up I' 15 (nI (a + 1))) hMY rfl (by omega) ?_)
    rw [up_up]
    refine xG.callV (F := xRun tb_M_descriptorOf 9) (a := 24) rfl rfl rfl rfl (p_M_descriptorOf (I := va_up I' 15 (nI (a + 1 + 1))) hg hM hT hn e10' hN' (fun dd hdd => ?_))
    refine xG.go [2, 9, 12, 18, 21, 27, 34, 43, 68, 95] 60 ?_
    show xG tb_M_readMembers Q (27, [some (.ref 24), some (.int (nI (g (sp g (g 1) + 3)))), some (.int (nI k)), some (.long tt), none, some (.long dd), none, w7], [.ref 24], (HX (va_up I' 15 (nI (a + 1 + 1))) A' B'), 0)
    refine xG.callV (F := xRun tb_M_next 1) (a := 24) rfl rfl rfl rfl (p_M_next (I := va_up I' 15 (nI (a + 1 + 1))) hMY rfl (by omega) ?_)
    rw [up_up]
    generalize hfl : mn g sz (a + 1 + 1) = fl
    refine xG.go [2, 9, 12, 18, 21, 27, 34, 43, 68, 95] 60 ?_
    show xG tb_M_readMembers Q (34, [some (.ref 24), some (.int (nI (g (sp g (g 1) + 3)))), some (.int (nI k)), some (.long tt), none, some (.long dd), none, some (.int fl)], [.int (1 : Int32), .long tt], (HX (va_up I' 15 (nI (a + 1 + 1 + 1))) A' B'), 0)
    -- what is known where the bytes are a file
    have kno : ∀ As Bs m, vK (B 25) n As Bs m → TF g sz (B 25) n As Bs m → k < m ∧ tt = Bs 8 (8 * n + k) ∧ dd = Bs 10 (8 * n + k) ∧ fl = As 11 (8 * n + k) := fun As Bs m v tf => by
      obtain ⟨ft, pt, es⟩ := tf
      have hm : k < m := by
        have := ft.2.2.2.2.1
        omega
      obtain ⟨⟨f1, f2⟩, ⟨f3, f4⟩, f5⟩ := ft.2.2.2.2.2 k hm
      obtain ⟨v1, v2, v3⟩ := v.2.2.2.2.2.1 k hm
      rw [ha] at f1 f2 f3 f4 f5
      refine ⟨hm, ?_, ?_, ?_⟩
      · exact htt _ _ (txt_pos f2 (tx_pos (okT_id v1))) f1 (if_pos (by omega)) f2
      · have ed : dx (Bs 2) (Bs 10 (8 * n + k)) = dx (B' 25) (Bs 10 (8 * n + k)) := dx_ext hn v2 (fun i hi => by
          rw [p7]
          by_cases q : i = n
          · rw [q, pk_uLs]; exact (hs As Bs m v ⟨ft, pt, es⟩).1.1
          · rw [pk_uLn q]; exact v.2.1.1 i (by omega))
        exact hdd _ _ (txt_pos f4 (dx_pos v2)) f3 (if_pos (by omega)) v2 (by rw [← ed]; exact f4)
      · rw [← hfl, ← f5]
        exact if_pos (by omega)
    have km : KM I A B n (va_up I' 15 (nI (a + 1 + 1 + 1))) A' B' := by
      obtain ⟨q1, q2, q3, q4, q5⟩ := PM_KM hP
      exact ⟨fun j hj => (up_n (fun q => hj (by omega))).trans (q1 j hj), q2, q3, q4, q5⟩
    have bad : (∀ As Bs m, vK (B 25) n As Bs m → k < m → tt = Bs 8 (8 * n + k) → dd = Bs 10 (8 * n + k) → fl = As 11 (8 * n + k) → (∀ j, j < k → Bs 8 (8 * n + j) = B' 30 (8 * n + j) ∧ Bs 10 (8 * n + j) = B' 32 (8 * n + j)) → False) → (((0 : Int32) = (0 : Int32) ∨ (0 : Int32) = 1) ∧ Q (.inl (some (.int 0))) (HX (va_up I' 15 (nI (a + 1 + 1 + 1))) A' B') 0) := fun w => ⟨Or.inl rfl, h0 _ _ _ km (fun As Bs m v tf => by
      obtain ⟨c1, c2, c3, c4⟩ := kno As Bs m v tf
      exact w As Bs m v c1 c2 c3 c4 (fun j hj => ⟨((hs As Bs m v tf).2 j hj (by omega)).1, ((hs As Bs m v tf).2 j hj (by omega)).2.1⟩))⟩
    refine xG.call (F := xRun tb_M_isName 8) rfl rfl (p_M_isName (al := true) ?_)
    rw [mName_id]
    refine xG.go [2, 9, 12, 18, 21, 27, 34, 43, 68, 95] 60 ?_
    show (((bI (isId tt)) = 0 → (((0 : Int32) = (0 : Int32) ∨ (0 : Int32) = 1) ∧ Q (.inl (some (.int (0 : Int32)))) (HX (va_up I' 15 (nI (a + 1 + 1 + 1))) A' B') 0)) ∧ (¬ (bI (isId tt)) = 0 → xG tb_M_readMembers Q (43, [some (.ref 24), some (.int (nI (g (sp g (g 1) + 3)))), some (.int (nI k)), some (.long tt), none, some (.long dd), none, some (.int fl)], [.long dd, .ref 24], (HX (va_up I' 15 (nI (a + 1 + 1 + 1))) A' B'), 0)))
    cases hi : isId tt with
    | false =>
      refine br_y rfl (bad (fun As Bs m v c1 c2 c3 c4 _ => ?_))
      rw [c2, (v.2.2.2.2.2.1 k c1).1] at hi
      cases hi
    | true =>
      refine br_n (by decide) ?_
      refine xG.callV (F := xRun tb_M_isDescriptorOfFile 5) (a := 24) rfl rfl rfl rfl (p_M_isDescriptorOfFile (I := va_up I' 15 (nI (a + 1 + 1 + 1))) hn e10' ?_)
      refine xG.go [2, 9, 12, 18, 21, 27, 34, 43, 68, 95] 60 ?_
      show (((bI (dOne dd (n + 1))) = 0 → (((0 : Int32) = (0 : Int32) ∨ (0 : Int32) = 1) ∧ Q (.inl (some (.int (0 : Int32)))) (HX (va_up I' 15 (nI (a + 1 + 1 + 1))) A' B') 0)) ∧ (¬ (bI (dOne dd (n + 1))) = 0 → ((fl < 0 → (((0 : Int32) = (0 : Int32) ∨ (0 : Int32) = 1) ∧ Q (.inl (some (.int (0 : Int32)))) (HX (va_up I' 15 (nI (a + 1 + 1 + 1))) A' B') 0)) ∧ (¬ fl < 0 → (((1 : Int32) < fl → (((0 : Int32) = (0 : Int32) ∨ (0 : Int32) = 1) ∧ Q (.inl (some (.int (0 : Int32)))) (HX (va_up I' 15 (nI (a + 1 + 1 + 1))) A' B') 0)) ∧ (¬ (1 : Int32) < fl → xG tb_M_readMembers Q (68, [some (.ref 24), some (.int (nI (g (sp g (g 1) + 3)))), some (.int (nI k)), some (.long tt), none, some (.long dd), none, some (.int fl)], [.long dd, .long tt, .int (I' 10), .ref 24], (HX (va_up I' 15 (nI (a + 1 + 1 + 1))) A' B'), 0)))))))
      cases ho : dOne dd (n + 1) with
      | false =>
        refine br_y rfl (bad (fun As Bs m v c1 c2 c3 c4 _ => ?_))
        rw [c3, (v.2.2.2.2.2.1 k c1).2.1] at ho
        cases ho
      | true =>
        rw [e10']
        refine br_n (by decide) ⟨fun z => bad (fun As Bs m v c1 c2 c3 c4 _ => ?_), fun z => ⟨fun z1 => bad (fun As Bs m v c1 c2 c3 c4 _ => ?_), fun z1 => ?_⟩⟩
        · rw [c4] at z
          rcases (v.2.2.2.2.2.1 k c1).2.2 with q | q
          · rw [q] at z; exact absurd z (by decide)
          · rw [q] at z; exact absurd z (by decide)
        · rw [c4] at z1
          rcases (v.2.2.2.2.2.1 k c1).2.2 with q | q
          · rw [q] at z1; exact absurd z1 (by decide)
          · rw [q] at z1; exact absurd z1 (by decide)
        · refine xG.callV (F := xRun tb_M_has 8) (a := 24) rfl rfl rfl rfl (p_M_has (I := va_up I' 15 (nI (a + 1 + 1 + 1))) hn p11 p10 ?_)
          by_cases w : ∃ j, j < k ∧ B' 30 (8 * n + j) = tt ∧ B' 32 (8 * n + j) = dd
          · obtain ⟨j, hj, j1, j2⟩ := w
            have eh : hsN (B' 30) (B' 32) tt dd n k 0 (-1) = nI j := hsN_yes ⟨j1, j2⟩ k 0 (-1) (by omega) (by omega) (fun i _ hi ei => p14 i j (by omega) hj (ei.1.trans j1.symm) (ei.2.trans j2.symm))
            rw [eh]
            refine xG.go [2, 9, 12, 18, 21, 27, 34, 43, 68, 95] 60 ?_
            show (((nI j) < 0 → ((fl = (1 : Int32) → xG tb_M_readMembers Q (95, [some (.ref 24), some (.int (nI (g (sp g (g 1) + 3)))), some (.int (nI k)), some (.long tt), none, some (.long dd), none, some (.int fl)], [.int (1 : Int32), .long dd, .long tt, .int (I' 10), .ref 24], (HX (va_up I' 15 (nI (a + 1 + 1 + 1))) A' B'), 0)) ∧ (¬ fl = (1 : Int32) → xG tb_M_readMembers Q (95, [some (.ref 24), some (.int (nI (g (sp g (g 1) + 3)))), some (.int (nI k)), some (.long tt), none, some (.long dd), none, some (.int fl)], [.int (0 : Int32), .long dd, .long tt, .int (I' 10), .ref 24], (HX (va_up I' 15 (nI (a + 1 + 1 + 1))) A' B'), 0)))) ∧ (¬ (nI j) < 0 → (((0 : Int32) = (0 : Int32) ∨ (0 : Int32) = 1) ∧ Q (.inl (some (.int (0 : Int32)))) (HX (va_up I' 15 (nI (a + 1 + 1 + 1))) A' B') 0)))
            refine br_n (nI_pos (by omega)) (bad (fun As Bs m v c1 c2 c3 c4 c5 => ?_))
            obtain ⟨d1, d2⟩ := c5 j hj
            have := v.2.2.2.2.2.2 j k (by omega) c1 (d1.trans (j1.trans c2)) (d2.trans (j2.trans c3))
            omega
          · have nw : ∀ j, j < k → ¬ (B' 30 (8 * n + j) = tt ∧ B' 32 (8 * n + j) = dd) := fun j hj q => w ⟨j, hj, q⟩
            rw [hsN_no k 0 (-1) (fun j _ hj => nw j (by omega))]
            refine xG.go [2, 9, 12, 18, 21, 27, 34, 43, 68, 95] 60 ?_
            show (((-1 : Int32) < 0 → ((fl = (1 : Int32) → xG tb_M_readMembers Q (95, [some (.ref 24), some (.int (nI (g (sp g (g 1) + 3)))), some (.int (nI k)), some (.long tt), none, some (.long dd), none, some (.int fl)], [.int (1 : Int32), .long dd, .long tt, .int (I' 10), .ref 24], (HX (va_up I' 15 (nI (a + 1 + 1 + 1))) A' B'), 0)) ∧ (¬ fl = (1 : Int32) → xG tb_M_readMembers Q (95, [some (.ref 24), some (.int (nI (g (sp g (g 1) + 3)))), some (.int (nI k)), some (.long tt), none, some (.long dd), none, some (.int fl)], [.int (0 : Int32), .long dd, .long tt, .int (I' 10), .ref 24], (HX (va_up I' 15 (nI (a + 1 + 1 + 1))) A' B'), 0)))) ∧ (¬ (-1 : Int32) < 0 → (((0 : Int32) = (0 : Int32) ∨ (0 : Int32) = 1) ∧ Q (.inl (some (.int (0 : Int32)))) (HX (va_up I' 15 (nI (a + 1 + 1 + 1))) A' B') 0)))
            rw [e10']
            have key : ∀ x, x = (if fl = 1 then (1 : Int32) else 0) → xG tb_M_readMembers Q (95, [some (.ref 24), some (.int (nI (g (sp g (g 1) + 3)))), some (.int (nI k)), some (.long tt), none, some (.long dd), none, some (.int fl)], [.int x, .long dd, .long tt, .int (nI n), .ref 24], HX (va_up I' 15 (nI (a + 1 + 1 + 1))) A' B', 0) := fun x ex => by
              have hx : x = 0 ∨ x = 1 := by
                rw [ex]
                split
                · exact Or.inr rfl
                · exact Or.inl rfl
              refine xG.callV (F := xRun tb_M_putMember 8) (a := 24) rfl rfl rfl rfl (p_M_putMember (I := va_up I' 15 (nI (a + 1 + 1 + 1))) hn (by omega) p10 hx ?_)
              refine xG.go [2, 9, 12, 18, 21, 27, 34, 43, 68, 95] 20 ?_
              show xG tb_M_readMembers Q (2, [some (.ref 24), some (.int (nI (g (sp g (g 1) + 3)))), some (.int (nI k + 1)), some (.long tt), none, some (.long dd), none, some (.int fl)], [], HX (va_up I' 15 (nI (a + 1 + 1 + 1))) (qmA A' n k x) (qmB B' (8 * n + k) tt dd), 0)
              rw [nI_1]
              refine p_M_rm_l hY hT hn e10 hN h6 h0 h1 c (k + 1) _ _ _ _ _ _ _ _ (by omega) (PM_step hP (by omega) hi ho hx nw) (fun As Bs m v tf => ⟨(hs As Bs m v tf).1, fun j hj hm => ?_⟩) hM ?_ (Or.inr trivial)
              · show Bs 8 (8 * n + j) = vp_updL (B' 30) (8 * n + k) tt (8 * n + j) ∧ Bs 10 (8 * n + j) = vp_updL (B' 32) (8 * n + k) dd (8 * n + j) ∧ As 11 (8 * n + j) = upd (A' 33) (8 * n + k) x (8 * n + j)
                by_cases q : j = k
                · subst q
                  rw [pk_uLs, pk_uLs, pk_us]
                  obtain ⟨c1, c2, c3, c4⟩ := kno As Bs m v tf
                  refine ⟨c2.symm, c3.symm, ?_⟩
                  rw [ex, c4]
                  rcases (v.2.2.2.2.2.1 j hm).2.2 with p | p
                  · rw [p]; rfl
                  · rw [p]; rfl
                · rw [pk_uLn (by omega), pk_uLn (by omega), pk_un (by omega)]
                  exact (hs As Bs m v tf).2 j (by omega) hm
              · show nI (a + 1 + 1 + 1) = nI (sp g (g 1) + 4 + 3 * (k + 1))
                rw [show a + 1 + 1 + 1 = sp g (g 1) + 4 + 3 * (k + 1) by omega]
            exact br_y (by decide) ⟨fun q => key 1 (by rw [if_pos q]), fun q => key 0 (by rw [if_neg q])⟩
