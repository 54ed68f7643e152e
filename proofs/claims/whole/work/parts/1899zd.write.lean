-- write, jointly
def gB (b : Int32) : Prop := ∃ k, k < 256 ∧ b = nI k
theorem tch_nat (t : Int64) {i : Nat} (hi : i < 8) : gB (tch t (nI i)) := by
  have hb : ∀ j, j ≥ 8 → (tch t (nI i)).toBitVec.toNat.testBit j = false := fun j hj => by
    have := tch_bit t hi j
    rw [decide_eq_false (by omega), Bool.false_and] at this
    exact this
  have hlt : (tch t (nI i)).toBitVec.toNat < 2 ^ 8 := Nat.lt_pow_two_of_testBit _ hb
  refine ⟨(tch t (nI i)).toBitVec.toNat, hlt, ?_⟩
  apply Int32.toBitVec_inj.mp
  apply BitVec.eq_of_toNat_eq
  show _ = (BitVec.ofNat 32 _).toNat
  rw [BitVec.toNat_ofNat, Nat.mod_eq_of_lt (by omega)]
abbrev gl (x : List Int32) : Prop := ∀ b, b ∈ x → gB b
theorem gl_nil : gl [] := fun b hb => by cases hb
theorem gl_cons {a : Int32} {x : List Int32} (h1 : gB a) (h2 : gl x) : gl (a :: x) := fun b hb => by
  rcases List.mem_cons.mp hb with rfl | h
  · exact h1
  · exact h2 b h
theorem gl_app {x y : List Int32} (h1 : gl x) (h2 : gl y) : gl (x ++ y) := fun b hb => (List.mem_append.mp hb).elim (h1 b) (h2 b)
theorem gl_rd {f : Nat → Int32} : ∀ (k o : Nat), (∀ i, o ≤ i → i < o + k → gB (f i)) → gl (rd f o k)
  | 0, o, h => gl_nil
  | k + 1, o, h => gl_cons (h o (by omega) (by omega)) (gl_rd k (o + 1) (fun i h1 h2 => h i (by omega) (by omega)))
theorem gl_tx (t : Int64) : gl (tx t) := gl_rd _ _ (fun i _ h => tch_nat t (by have := tlen_le t; omega))
theorem gl_dxF {N : Nat → Int64} {d : Int64} : ∀ (k i : Nat), i + k ≤ 8 → gl (dxF N d i k)
  | 0, i, h => gl_nil
  | k + 1, i, h => by
    unfold dxF
    refine gl_app ?_ (gl_dxF k (i + 1) (by omega))
    split
    · exact gl_app (gl_cons ⟨76, by omega, rfl⟩ (gl_tx _)) (gl_cons ⟨59, by omega, rfl⟩ gl_nil)
    · exact gl_cons (tch_nat d (by omega)) gl_nil
theorem gl_dx {N : Nat → Int64} {d : Int64} : gl (dx N d) := gl_dxF _ _ (by have := tlen_le d; omega)
abbrev sOk (s : fst_) (n : Nat) : Prop := s.1.length ≤ n ∧ gl s.2 ∧ ∀ x, x ∈ s.1 → x.length ≤ 62 ∧ gl x
theorem sOk_T {s : fst_} {n : Nat} {x : List Int32} (h : sOk s n) (hn : n ≤ 200) (hx : x.length ≤ 62) (hg : gl x) : sOk (opT s x) (n + 1) := by
  have hl := opT_len s x
  have hk := kn_le x s.1
  refine ⟨by omega, gl_app h.2.1 (gl_cons ⟨kn x s.1 + 1, by omega, rfl⟩ gl_nil), fun y hy => ?_⟩
  have hy' : y ∈ addP s.1 x := hy
  unfold addP at hy'
  split at hy'
  · exact h.2.2 y hy'
  · rcases List.mem_append.mp hy' with q | q
    · exact h.2.2 y q
    · rw [List.mem_singleton] at q
      rw [q]; exact ⟨hx, hg⟩
theorem sOk_N {s : fst_} {n : Nat} {b : Int32} (h : sOk s n) (hb : gB b) : sOk (opN s b) n := ⟨h.1, gl_app h.2.1 (gl_cons hb gl_nil), h.2.2⟩
theorem gB_n01 (x : Int32) : gB (n01 x) := by
  unfold n01
  split
  · exact ⟨0, by omega, rfl⟩
  · exact ⟨1, by omega, rfl⟩
theorem tx62 (t : Int64) : (tx t).length ≤ 62 := by rw [tx_len]; have := tlen_le t; omega
theorem sOk_M {A : Nat → Nat → Int32} {B : Nat → Nat → Int64} {c m : Nat} (hx : ∀ j, j < m → (dx (B 2) (B 10 (8 * c + j))).length ≤ 62) : ∀ (k j : Nat) (s : fst_) (n : Nat), j + k = m → sOk s n → n + 2 * k ≤ 200 → sOk (clM A B c k j s) (n + 2 * k)
  | 0, j, s, n, h, hs, hn => hs
  | k + 1, j, s, n, h, hs, hn => by
    have := sOk_M (A := A) hx k (j + 1) _ (n + 1 + 1) (by omega) (sOk_N (b := n01 (A 11 (8 * c + j))) (sOk_T (sOk_T hs (by omega) (tx62 (B 8 (8 * c + j))) (gl_tx _)) (by omega) (hx j (by omega)) gl_dx) (gB_n01 _)) (by omega)
    rw [show n + 1 + 1 + 2 * k = n + 2 * (k + 1) by omega] at this
    exact this
theorem gl_fl : ∀ (p : List (List Int32)), (∀ x, x ∈ p → x.length ≤ 62 ∧ gl x) → gl (fl p)
  | [], h => gl_nil
  | x :: p, h => gl_app (gl_cons ⟨x.length, by have := (h x (List.mem_cons_self ..)).1; omega, rfl⟩ (h x (List.mem_cons_self ..)).2) (gl_fl p (fun y hy => h y (List.mem_cons_of_mem _ hy)))
theorem gl_file {A : Nat → Nat → Int32} {B : Nat → Nat → Int64} {c m : Nat} (hf : fOk A B c m) : gl (fileL (clF A B c m)) ∧ sOk (clF A B c m) 14 := by
  obtain ⟨f1, f2, f3, f4, f5⟩ := hf
  have h0 : sOk ([], []) 0 := ⟨Nat.le_refl 0, gl_nil, fun x hx => by cases hx⟩
  have h1 : sOk (cl1 A B c) 2 := by
    unfold cl1
    split
    · have := sOk_N (b := 0) (sOk_T h0 (by omega) (tx62 (B 2 c)) (gl_tx _)) ⟨0, by omega, rfl⟩
      exact ⟨by have := this.1; omega, this.2⟩
    · exact sOk_T (sOk_T h0 (by omega) (tx62 (B 2 c)) (gl_tx _)) (by omega) (tx62 _) (gl_tx _)
  have h2 : sOk (cl0 A B c) 2 := sOk_N (sOk_N h1 (gB_n01 _)) (by rw [f4]; exact ⟨m, by omega, rfl⟩)
  have h3 := sOk_M (A := A) f5 m 0 (cl0 A B c) 2 (Nat.zero_add m) h2 (by omega)
  have h4 : sOk (clF A B c m) 14 := ⟨by have := h3.1; show (clM A B c m 0 (cl0 A B c)).1.length ≤ 14; omega, h3.2⟩
  exact ⟨gl_app (gl_cons ⟨202, by omega, rfl⟩ (gl_cons ⟨(clF A B c m).1.length, by have := h4.1; omega, rfl⟩ (gl_fl _ h4.2.2))) h4.2.1, h4⟩
theorem vInv.ext {I I2 : Nat → Int32} {A A2 : Nat → Nat → Int32} {B B2 : Nat → Nat → Int64} {sz : Nat} (h : vInv I A B) (h0 : I2 0 = I 0) (h10 : I2 10 = I 10) (hA : ∀ j, (j = 4 ∨ j = 5 ∨ j = 6 ∨ j = 7 ∨ j = 11 ∨ j = 27 ∨ j = 28 ∨ j = 29 ∨ j = 33) → A2 j = A j) (hB : ∀ j, ¬ j = 41 → B2 j = B j) (hs : I2 1 = nI sz ∧ I2 11 = nI sz ∧ sz ≤ 480 ∧ ∀ j, j < sz → A2 35 j = A2 13 j ∧ 0 ≤ A2 13 j ∧ A2 13 j ≤ 255) : vInv I2 A2 B2 := by
  obtain ⟨n, mc, sz', h1, h2, h3, h4, h5, -⟩ := h
  refine ⟨n, mc, sz, ?_, ?_, ?_, ?_, ?_, hs⟩
  · rw [h0, h10]; exact h1
  · rw [hA 4 (by omega), hA 5 (by omega), hA 6 (by omega), hA 27 (by omega), hA 28 (by omega), hA 29 (by omega), hB 2 (by omega), hB 3 (by omega), hB 25 (by omega), hB 26 (by omega)]; exact h2
  · rw [hA 11 (by omega), hA 33 (by omega), hB 8 (by omega), hB 9 (by omega), hB 10 (by omega), hB 30 (by omega), hB 31 (by omega), hB 32 (by omega)]; exact h3
  · rw [hB 2 (by omega)]; exact h4
  · unfold vOk vAnc
    rw [hA 4 (by omega), hA 7 (by omega), hB 2 (by omega), hB 3 (by omega), hB 8 (by omega), hB 9 (by omega), hB 10 (by omega)]; exact h5
/-- what both sides need for a file of class c -/
theorem vInv.file {I : Nat → Int32} {A : Nat → Nat → Int32} {B : Nat → Nat → Int64} {n c : Nat} {mc : Nat → Nat} (h8 : n ≤ 8) (hc : c < n) (h2 : ∀ c, c < n → (B 25 c = B 2 c ∧ B 26 c = B 3 c ∧ A 27 c = A 4 c ∧ A 28 c = A 5 c) ∧ (A 5 c = 0 ∨ A 5 c = 1) ∧ (A 4 c = -1 ∨ ∃ p, p < c ∧ A 4 c = nI p) ∧ mc c ≤ 6 ∧ A 6 c = nI (mc c) ∧ A 29 c = nI (mc c)) (h3 : ∀ c k, c < n → k < mc c → (B 30 (8 * c + k) = B 8 (8 * c + k) ∧ B 31 (8 * c + k) = B 9 (8 * c + k) ∧ B 32 (8 * c + k) = B 10 (8 * c + k) ∧ A 33 (8 * c + k) = A 11 (8 * c + k)) ∧ (A 11 (8 * c + k) = 0 ∨ A 11 (8 * c + k) = 1)) (h5 : vOk n mc A B) : fOk A B c (mc c) ∧ mOk A B A B c (mc c) := by
  obtain ⟨a1, a2, a3, a4, a5, a6⟩ := h2 c hc
  have ml : ∀ {t : Int64}, okT t → mlen t = tlen t := fun h => (okT_len h).2.2.1
  refine ⟨⟨by omega, a3.elim Or.inl (fun ⟨p, hp, e⟩ => Or.inr ⟨p, by omega, e⟩), a4, a5, fun j hj => dx_len (h5.2 c j hc hj).2.2⟩, ⟨a1.1, ml (h5.1 c hc).1⟩, a1.2.2.1, fun p hp hp8 => ?_, a1.2.2.2, a6, fun j hj => ⟨⟨(h3 c j hc hj).1.1, ml (h5.2 c j hc hj).1⟩, ⟨(h3 c j hc hj).1.2.2.1, ?_, fun i hi hd => ?_⟩, (h3 c j hc hj).1.2.2.2⟩⟩
  · have hpn : p < n := by
      rcases a3 with q | ⟨e, he, q⟩
      · exact absurd (q.symm.trans hp) (m1_nI (by omega))
      · have := (nI_eq (by omega) (by omega)).mp (q.symm.trans hp)
        omega
    exact ⟨(h2 p hpn).1.1, ml (h5.1 p hpn).1⟩
  · obtain ⟨l, l1, l2, l3, l4, -⟩ := (h5.2 c j hc hj).2.2
    have e := tlen_is l2 (Or.inr (l3 (l - 1) (by omega)).1) l4
    exact (nz_tx (fun i hi => (l3 i (by omega)).1)).2
  · obtain ⟨l, l1, l2, l3, l4, -⟩ := (h5.2 c j hc hj).2.2
    have e := tlen_is l2 (Or.inr (l3 (l - 1) (by omega)).1) l4
    obtain ⟨x, hx, ex⟩ := (l3 i (by omega)).2.2 hd
    exact ⟨x, by omega, ex, (h2 x hx).1.1, ml (h5.1 x hx).1⟩
theorem p_N_write {I : Nat → Int32} {A : Nat → Nat → Int32} {B : Nat → Nat → Int64} {Q : xQ} {n sz : Nat} {c : Int32} {mc : Nat → Nat} (h8 : n ≤ 8) (e0 : I 0 = nI n) (e1 : I 1 = nI sz) (hsz : sz ≤ 480) (hf : ∀ i, i < n → fOk A B i (mc i)) (h1 : isC (nI n) c = false → Q (.inr 1) (HX I A B) 1) (h0 : ∀ i, i < n → c = nI i → ∀ I' A', I' 1 = nI (fileL (clF A B i (mc i))).length → rd (A' 13) 0 (fileL (clF A B i (mc i))).length = fileL (clF A B i (mc i)) → kp 1 13 3 17 4 18 I I' A A' → Q (.inl (some (.int (nI (fileL (clF A B i (mc i))).length)))) (HX I' A' B) 0) : xRun tb_N_write 2 [.ref 0, .int c] (HX I A B) Q := by
  refine ⟨Nat.le_of_ble_eq_true rfl, ?_⟩
  refine xG.go [2, 10, 17] 60 ?_
  show xG tb_N_write Q (2, [some (.ref 0), some (.int c)], [.int c, .ref 0], (HX I A B), 0)
  refine xG.callV (F := xRun tb_N_requireClass 2) (a := 0) rfl rfl rfl rfl (p_N_requireClass (fun w => ?_) (fun w => h1 (by rw [← e0]; exact w)))
  rw [e0] at w
  obtain ⟨i, hi, rfl⟩ := isC_ix (by omega) w
  refine xG.go [2, 10, 17] 60 ?_
  show xG tb_N_write Q (10, [some (.ref 0), some (.int (nI i))], [.int (nI i), .ref 16], (HX I A B), 0)
  refine xG.callV (F := xRun tb_W_compose 5) (a := 16) rfl rfl rfl rfl (p_W_compose_b (hf i hi) (fun I' A' q1 q2 q3 => ?_))
  refine xG.go [2, 10, 17] 60 ?_
  show xG tb_N_write Q (17, [some (.ref 0), some (.int (nI i))], [.ref 12], (HX I' A' B), 0)
  refine xG.callV (F := xRun tb_B_size 1) (a := 12) rfl rfl rfl rfl (p_B_size_b ?_)
  rw [q1]
  refine xG.go [2, 10, 17] 20 ?_
  exact h0 i hi rfl I' A' q1 q2 q3
theorem p_L_write {I : Nat → Int32} {A : Nat → Nat → Int32} {B : Nat → Nat → Int64} {Q : xQ} {n sz : Nat} {c : Int32} {mc : Nat → Nat} (h8 : n ≤ 8) (e0 : I 0 = nI n) (e1 : I 1 = nI sz) (hsz : sz ≤ 480) (hf : ∀ i, i < n → fOk A B i (mc i)) (h1 : isC (nI n) c = false → Q (.inl (some (.int 1))) (HX I A B) 1) (h0 : ∀ i, i < n → c = nI i → ∀ I' A', I' 1 = nI (fileL (clF A B i (mc i))).length → rd (A' 13) 0 (fileL (clF A B i (mc i))).length = fileL (clF A B i (mc i)) → kp 1 13 3 17 4 18 I I' A A' → Q (.inl (some (.int 0))) (HX I' A' (va_up B 41 (vp_updL (B 41) 0 (nI (fileL (clF A B i (mc i))).length).toInt64))) 0) : xRun tb_L_write 4 [.ref 0, .int c, .ref 41] (HX I A B) Q := by
  refine ⟨Nat.le_of_ble_eq_true rfl, ?_⟩
  refine xG.go [4] 60 ?_
  show xG tb_L_write Q (4, [some (.ref 0), some (.int c), some (.ref 41), none], [.int c, .ref 0, .int (0 : Int32), .ref 41], (HX I A B), 0)
  refine xG.callH (F := xRun tb_N_write 2) (a := 0) rfl rfl rfl rfl (p_N_write h8 e0 e1 hsz hf (fun w => h1 w) (fun i hi w I' A' q1 q2 q3 => ?_))
  have hy := h0 i hi w I' A' q1 q2 q3
  generalize nI (fileL (clF A B i (mc i))).length = v at hy ⊢
  refine xG.go [4] 30 ?_
  exact ⟨vp_in_nI (n := 0) (by omega) (by omega), hy⟩
theorem p_M_write_l {I : Nat → Int32} {A : Nat → Nat → Int32} {B : Nat → Nat → Int64} {Q : xQ} {c l : Nat} (hl : l ≤ 480) (e11 : I 11 = nI l) (hK : ∀ g, (∀ j, j < l → g j = A 36 j) → Q (.inl (some (.int (nI l)))) (HX I (va_up A 35 g) B) 0) : ∀ (k i : Nat) (g : Nat → Int32), i + k = l → (∀ j, j < i → g j = A 36 j) → xG tb_M_write Q (41, [some (.ref 24), some (.int (nI c)), some (.int (nI i))], [], HX I (va_up A 35 g) B, 0)
  | 0, i, g, h, hg => by
    refine xG.go [3, 28, 41] 60 ?_
    show (((I 11) ≤ (nI i) → Q (.inl (some (.int (I 11)))) (HX I (va_up A 35 g) B) 0) ∧ (¬ (I 11) ≤ (nI i) → (vp_in (nI i) 480 ∧ (vp_in (nI i) 480 ∧ xG tb_M_write Q (41, [some (.ref 24), some (.int (nI c)), some (.int ((nI i) + (1 : Int32)))], [], (HX I (va_up A 35 (upd g (nI i).toNatClampNeg ((A 36) (nI i).toNatClampNeg))) B), 0)))))
    rw [e11]
    obtain rfl : i = l := by omega
    exact br_y (nI_le (by omega) (by omega)) (hK g hg)
  | k + 1, i, g, h, hg => by
    refine xG.go [3, 28, 41] 60 ?_
    show (((I 11) ≤ (nI i) → Q (.inl (some (.int (I 11)))) (HX I (va_up A 35 g) B) 0) ∧ (¬ (I 11) ≤ (nI i) → (vp_in (nI i) 480 ∧ (vp_in (nI i) 480 ∧ xG tb_M_write Q (41, [some (.ref 24), some (.int (nI c)), some (.int ((nI i) + (1 : Int32)))], [], (HX I (va_up A 35 (upd g (nI i).toNatClampNeg ((A 36) (nI i).toNatClampNeg))) B), 0)))))
    rw [e11, nI_clamp (by omega), nI_1]
    refine br_n (nI_ge (by omega) (by omega)) ⟨vp_in_nI (by omega) (by omega), vp_in_nI (by omega) (by omega), p_M_write_l hl e11 hK k (i + 1) _ (by omega) (fun j hj => ?_)⟩
    by_cases q : j = i
    · rw [q, pk_us]
    · rw [pk_un q]
      exact hg j (by omega)
theorem p_M_write {I : Nat → Int32} {A : Nat → Nat → Int32} {B : Nat → Nat → Int64} {Q : xQ} {n : Nat} {c : Int32} {mc : Nat → Nat} (h8 : n ≤ 8) (e0 : I 10 = nI n) (hf : ∀ i, i < n → fOk A B i (mc i) ∧ mOk A B A B i (mc i)) (h1 : isC (nI n) c = false → Q (.inl (some (.int 0))) (HX (va_up I 9 1) A B) 0) (h0 : ∀ i, i < n → c = nI i → ∀ I' A', I' 9 = 0 → I' 11 = nI (fileL (clF A B i (mc i))).length → rd (A' 35) 0 (fileL (clF A B i (mc i))).length = fileL (clF A B i (mc i)) → (∀ j, ¬ (j = 9 ∨ j = 11 ∨ j = 12 ∨ j = 13 ∨ j = 14) → I' j = I j) → (∀ j, ¬ (j = 35 ∨ j = 36 ∨ j = 37 ∨ j = 38 ∨ j = 39 ∨ j = 40) → A' j = A j) → Q (.inl (some (.int (nI (fileL (clF A B i (mc i))).length)))) (HX I' A' B) 0) : xRun tb_M_write 3 [.ref 24, .int c] (HX I A B) Q := by
  refine ⟨Nat.le_of_ble_eq_true rfl, ?_⟩
  refine xG.go [3, 28, 41] 60 ?_
  show xG tb_M_write Q (3, [some (.ref 24), some (.int c), none], [.int c, .ref 24, .ref 24], (HX I A B), 0)
  refine xG.callV (F := xRun tb_M_isClass 2) (a := 24) rfl rfl rfl rfl (p_M_isClass ?_)
  refine xG.go [3, 28, 41] 60 ?_
  show (((bI (isC (I 10) c)) = 0 → (((1 : Int32) ≤ 0 → xG tb_M_write Q (28, [some (.ref 24), some (.int c), none], [.int c, .ref 24], (HX (va_up I 9 (1 : Int32)) A B), 0)) ∧ (¬ (1 : Int32) ≤ 0 → Q (.inl (some (.int (0 : Int32)))) (HX (va_up I 9 (1 : Int32)) A B) 0))) ∧ (¬ (bI (isC (I 10) c)) = 0 → (((0 : Int32) ≤ 0 → xG tb_M_write Q (28, [some (.ref 24), some (.int c), none], [.int c, .ref 24], (HX (va_up I 9 (0 : Int32)) A B), 0)) ∧ (¬ (0 : Int32) ≤ 0 → Q (.inl (some (.int (0 : Int32)))) (HX (va_up I 9 (0 : Int32)) A B) 0))))
  rw [e0]
  cases h : isC (nI n) c with
  | false => exact br_y rfl (br_n (by decide) (h1 h))
  | true =>
    obtain ⟨i, hi, rfl⟩ := isC_ix (by omega) h
    have hl := (file_len (hf i hi).1).1
    refine br_n (by decide) (br_y (by decide) ?_)
    refine xG.callV (F := xRun tb_M_make 4) (a := 24) rfl rfl rfl rfl (p_M_make (I := va_up I 9 0) (hf i hi).1 (hf i hi).2 (fun I1 A1 hw1 hk1 => ?_))
    have hy := h0 i hi rfl
    generalize fileL (clF A B i (mc i)) = F at hl hw1 hy ⊢
    refine xG.go [3, 28, 41] 20 ?_
    show xG tb_M_write Q (41, [some (.ref 24), some (.int (nI i)), some (.int (nI 0))], [], HX (va_up I1 11 (I1 12)) A1 B, 0)
    rw [hw1.1]
    have go := p_M_write_l (I := va_up I1 11 (nI F.length)) (A := A1) (B := B) (Q := Q) (c := i) (l := F.length) (by omega) rfl (fun g hg => ?_) F.length 0 (A1 35) (Nat.zero_add _) (fun j hj => by omega)
    · rw [up_same] at go
      exact go
    · refine hy _ _ ?_ rfl ?_ (fun j hj => ?_) (fun j hj => ?_)
      · exact (hk1.1 9 (by omega)).trans rfl
      · show rd g 0 F.length = F
        rw [rd_eq (g := A1 36) F.length 0 0 (fun j hj => by rw [Nat.zero_add]; exact hg j hj)]
        exact hw1.2
      · rw [up_n (fun q => hj (by omega)), hk1.1 j (fun q => hj (by omega)), up_n (fun q => hj (by omega))]
      · rw [up_n (fun q => hj (by omega)), hk1.2 j (fun q => hj (by omega))]
theorem clM_ext {A A' : Nat → Nat → Int32} {B B' : Nat → Nat → Int64} {c m : Nat} (e2 : B' 2 = B 2) (e8 : B' 8 = B 8) (e10 : B' 10 = B 10) (e11 : A' 11 = A 11) : ∀ (k j : Nat) (s : fst_), clM A' B' c k j s = clM A B c k j s
  | 0, j, s => rfl
  | k + 1, j, s => by
    unfold clM
    rw [e2, e8, e10, e11, clM_ext (m := m) e2 e8 e10 e11 k (j + 1)]
theorem clF_ext {A A' : Nat → Nat → Int32} {B B' : Nat → Nat → Int64} {c m : Nat} (e2 : B' 2 = B 2) (e8 : B' 8 = B 8) (e10 : B' 10 = B 10) (e4 : A' 4 = A 4) (e5 : A' 5 = A 5) (e6 : A' 6 = A 6) (e11 : A' 11 = A 11) : clF A' B' c m = clF A B c m := by
  unfold clF
  rw [clM_ext (m := m) e2 e8 e10 e11]
  unfold cl0 cl1
  rw [e2, e4, e5, e6]
theorem k_write : K_write vInv := by
  intro I A B c hV
  have hV' := hV
  obtain ⟨n, mc, sz, ⟨h8, e0, e10⟩, h2, h3, h4, h5, ⟨e1, e11, hsz, hsb⟩⟩ := hV'
  have hf : ∀ i, i < n → fOk A B i (mc i) ∧ mOk A B A B i (mc i) := fun i hi => vInv.file (I := I) h8 hi h2 h3 h5.2
  cases h : isC (nI n) c with
  | false =>
    have no : ∀ i, i < n → c = nI i → False := fun i hi w => by
      rw [w, isC_nI (by omega) (by omega), decide_eq_true hi] at h
      cases h
    refine ⟨1, 1, 0, fun I1 A1 B1 => I = I1 ∧ A = A1 ∧ B = B1, fun Q hq => p_L_write h8 e0 e1 hsz (fun i hi => (hf i hi).1) (fun _ => hq _ _ _ ⟨rfl, rfl, rfl⟩) (fun i hi w => (no i hi w).elim), Nat.le_refl 1, ?_⟩
    rintro _ _ _ ⟨rfl, rfl, rfl⟩ Q hq
    exact p_M_write (mc := mc) h8 e10 hf (fun _ => hq _ _ _ rfl (fun z => absurd z (by decide)) hV) (fun i hi w => (no i hi w).elim)
  | true =>
    obtain ⟨i, hi, rfl⟩ := isC_ix (by omega) h
    have inj : ∀ j, j < n → nI i = nI j → i = j := fun j hj w => (nI_eq (by omega) (by omega)).mp w
    have hg := (gl_file (hf i hi).1).1
    have hl := (file_len (hf i hi).1).1
    refine ⟨0, 0, nI (fileL (clF A B i (mc i))).length, fun I1 A1 B1 => I1 1 = nI (fileL (clF A B i (mc i))).length ∧ rd (A1 13) 0 (fileL (clF A B i (mc i))).length = fileL (clF A B i (mc i)) ∧ kp 1 13 3 17 4 18 I I1 A A1 ∧ va_up B 41 (vp_updL (B 41) 0 (nI (fileL (clF A B i (mc i))).length).toInt64) = B1, fun Q hq => p_L_write h8 e0 e1 hsz (fun i hi => (hf i hi).1) (fun z => by rw [h] at z; cases z) (fun j hj w I' A' q1 q2 q3 => by obtain rfl := inj j hj w; exact hq _ _ _ ⟨q1, q2, q3, rfl⟩), Nat.zero_le 1, ?_⟩
    rintro I1 A1 _ ⟨q1, q2, q3, rfl⟩ Q hq
    have eF : ∀ j, clF A1 (va_up B 41 (vp_updL (B 41) 0 (nI (fileL (clF A B i (mc i))).length).toInt64)) j (mc j) = clF A B j (mc j) := fun j => clF_ext rfl rfl rfl (q3.2 4 (by omega)) (q3.2 5 (by omega)) (q3.2 6 (by omega)) (q3.2 11 (by omega))
    have hf1 : ∀ j, j < n → fOk A1 (va_up B 41 (vp_updL (B 41) 0 (nI (fileL (clF A B i (mc i))).length).toInt64)) j (mc j) ∧ mOk A1 (va_up B 41 (vp_updL (B 41) 0 (nI (fileL (clF A B i (mc i))).length).toInt64)) A1 (va_up B 41 (vp_updL (B 41) 0 (nI (fileL (clF A B i (mc i))).length).toInt64)) j (mc j) := fun j hj => by
      have := hf j hj
      unfold fOk mOk
      rw [q3.2 4 (by omega), q3.2 5 (by omega), q3.2 6 (by omega), q3.2 11 (by omega), q3.2 27 (by omega), q3.2 28 (by omega), q3.2 29 (by omega), q3.2 33 (by omega)]
      exact this
    refine p_M_write (n := n) (mc := mc) h8 ((q3.1 10 (by omega)).trans e10) hf1 (fun z => by rw [h] at z; cases z) (fun j hj w I2 A2 r1 r2 r3 r4 r5 => ?_)
    obtain rfl := inj j hj w
    rw [eF] at r2 r3 ⊢
    refine hq I2 A2 _ r1 (fun _ => (pk_uLs : vp_updL (B 41) 0 (nI (fileL (clF A B i (mc i))).length).toInt64 0 = _)) (hV.ext (sz := (fileL (clF A B i (mc i))).length) ((r4 0 (by omega)).trans (q3.1 0 (by omega))) ((r4 10 (by omega)).trans (q3.1 10 (by omega))) (fun k hk => (r5 k (by omega)).trans (q3.2 k (by omega))) (fun k hk => up_n hk) ⟨(r4 1 (by omega)).trans q1, r2, by omega, fun k hk => ?_⟩)
    have e13 : A2 13 = A1 13 := r5 13 (by omega)
    have ek := rd_at _ _ _ (r3.trans q2.symm) k hk
    rw [Nat.zero_add] at ek
    rw [e13]
    refine ⟨ek, ?_⟩
    have hm : A1 13 k ∈ fileL (clF A B i (mc i)) := by
      rw [← q2]
      have hrd : ∀ (f : Nat → Int32) (l o x : Nat), o ≤ x → x < o + l → f x ∈ rd f o l := fun f l => by
        induction l with
        | zero => intro o x h1 h2; omega
        | succ l ih =>
          intro o x h1 h2
          show f x ∈ f o :: rd f (o + 1) l
          by_cases w : x = o
          · rw [w]; exact List.mem_cons_self ..
          · exact List.mem_cons_of_mem _ (ih (o + 1) x (by omega) (by omega))
      rw [q2]
      have := hrd (A1 13) (fileL (clF A B i (mc i))).length 0 k (by omega) (by omega)
      rw [q2] at this
      exact this
    obtain ⟨x, hx, ex⟩ := hg _ hm
    rw [ex]
    exact ⟨nI_pos' (by omega), nI_le (b := 255) (by omega) (by omega)⟩
theorem case_12 {L : Nat} {xs : Nat → Int32} : xCase vInv L xs 1151 := kcase_12 k_write
