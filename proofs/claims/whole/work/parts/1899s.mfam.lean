-- families, the reference's side
theorem p_M_isMethod {I : Nat → Int32} {A : Nat → Nat → Int32} {B' : Nat → Nat → Int64} {Q : xQ} {m : Nat} (hm : m < 64) (hq : Q (.inl (some (.int (bI (decide (tch (B' 32 m) (nI 0) = 40)))))) (HX I A B') 0) : xRun tb_M_isMethod 2 [.ref 24, .int (nI m)] (HX I A B') Q := by
  refine ⟨Nat.le_of_ble_eq_true rfl, ?_⟩
  refine xG.go [7] 60 ?_
  show (vp_in (nI m) 64 ∧ xG tb_M_isMethod Q (7, [some (.ref 24), some (.int (nI m))], [.int (0 : Int32), .long ((B' 32) (nI m).toNatClampNeg)], (HX I A B'), 0))
  rw [nI_clamp (by omega)]
  refine ⟨vp_in_nI hm (by omega), ?_⟩
  refine xG.call (F := xRun tb_M_charAt 3) rfl rfl (p_M_charAt (x := 0) (by omega) ?_)
  refine xG.go [7] 60 ?_
  show (((tch (B' 32 m) (nI 0)) = (40 : Int32) → (((1 : Int32) = (0 : Int32) ∨ (1 : Int32) = 1) ∧ Q (.inl (some (.int (1 : Int32)))) (HX I A B') 0)) ∧ (¬ (tch (B' 32 m) (nI 0)) = (40 : Int32) → (((0 : Int32) = (0 : Int32) ∨ (0 : Int32) = 1) ∧ Q (.inl (some (.int (0 : Int32)))) (HX I A B') 0)))
  refine ⟨fun z => ?_, fun z => ?_⟩
  · rw [decide_eq_true z] at hq
    exact ⟨Or.inr rfl, hq⟩
  · rw [decide_eq_false z] at hq
    exact ⟨Or.inl rfl, hq⟩
theorem p_M_override {I : Nat → Int32} {A : Nat → Nat → Int32} {B B' : Nat → Nat → Int64} {Q : xQ} {n x y : Nat} {mc : Nat → Nat} (hS : vSame n mc A B B') (hx : numB mc n x = true) (hy : numB mc n y = true) (hq : Q (.inl (some (.int (bI (decide (ovr A B x y)))))) (HX I A B') 0) : xRun tb_M_override 4 [.ref 24, .int (nI x), .int (nI y)] (HX I A B') Q := by
  obtain ⟨x1, x2, x3, x4, x5⟩ := hS.num hx
  obtain ⟨y1, y2, y3, y4, y5⟩ := hS.num hy
  have h8 := hS.h8
  have hi : vp_in (nI x) 64 := vp_in_nI (by omega) (by omega)
  have hj : vp_in (nI y) 64 := vp_in_nI (by omega) (by omega)
  have no : ¬ ovr A B x y → ((0 : Int32) = (0 : Int32) ∨ (0 : Int32) = 1) ∧ Q (.inl (some (.int 0))) (HX I A B') 0 := fun z => by
    rw [decide_eq_false z] at hq
    exact ⟨Or.inl rfl, hq⟩
  have no' : ¬ ovr A B x y → xG tb_M_override Q (37, [some (.ref 24), some (.int (nI x)), some (.int (nI y)), none], [.int 0], HX I A B', 0) := fun z => by
    refine xG.go [44, 88] 60 ?_
    show (((0 : Int32) = 0 → (((0 : Int32) = (0 : Int32) ∨ (0 : Int32) = 1) ∧ Q (.inl (some (.int (0 : Int32)))) (HX I A B') 0)) ∧ (¬ (0 : Int32) = 0 → xG tb_M_override Q (44, [some (.ref 24), some (.int (nI x)), some (.int (nI y)), some (.int (0 : Int32))], [.int (nI x), .ref 24], (HX I A B'), 0)))
    exact br_y rfl (no z)
  refine ⟨Nat.le_of_ble_eq_true rfl, ?_⟩
  refine xG.go [37, 44, 88] 60 ?_
  show (vp_in (nI x) 64 ∧ (vp_in (nI y) 64 ∧ (((lg_cmp ((B' 30) (nI x).toNatClampNeg) ((B' 30) (nI y).toNatClampNeg)) = 0 → (vp_in (nI x) 64 ∧ (vp_in (nI y) 64 ∧ (((lg_cmp ((B' 32) (nI x).toNatClampNeg) ((B' 32) (nI y).toNatClampNeg)) = 0 → xG tb_M_override Q (37, [some (.ref 24), some (.int (nI x)), some (.int (nI y)), none], [.int (1 : Int32)], (HX I A B'), 0)) ∧ (¬ (lg_cmp ((B' 32) (nI x).toNatClampNeg) ((B' 32) (nI y).toNatClampNeg)) = 0 → xG tb_M_override Q (37, [some (.ref 24), some (.int (nI x)), some (.int (nI y)), none], [.int (0 : Int32)], (HX I A B'), 0)))))) ∧ (¬ (lg_cmp ((B' 30) (nI x).toNatClampNeg) ((B' 30) (nI y).toNatClampNeg)) = 0 → xG tb_M_override Q (37, [some (.ref 24), some (.int (nI x)), some (.int (nI y)), none], [.int (0 : Int32)], (HX I A B'), 0)))))
  rw [nI_clamp (by omega), nI_clamp (by omega), x2, x4, y2, y4]
  refine ⟨hi, hj, fun z1 => ⟨hi, hj, fun z2 => ?_, fun z2 => no' (fun q => z2 ((lg_cmp_eq _ _).mpr q.2.1))⟩, fun z1 => no' (fun q => z1 ((lg_cmp_eq _ _).mpr q.1))⟩
  refine xG.go [44, 88] 60 ?_
  show (((1 : Int32) = 0 → (((0 : Int32) = (0 : Int32) ∨ (0 : Int32) = 1) ∧ Q (.inl (some (.int (0 : Int32)))) (HX I A B') 0)) ∧ (¬ (1 : Int32) = 0 → xG tb_M_override Q (44, [some (.ref 24), some (.int (nI x)), some (.int (nI y)), some (.int (1 : Int32))], [.int (nI x), .ref 24], (HX I A B'), 0)))
  refine br_n (by decide) ?_
  refine xG.callV (F := xRun tb_M_isMethod 2) (a := 24) rfl rfl rfl rfl (p_M_isMethod (by omega) ?_)
  rw [x4]
  refine xG.go [44, 88] 60 ?_
  show (((bI (decide (tch (B 10 x) (nI 0) = 40))) = 0 → (((0 : Int32) = (0 : Int32) ∨ (0 : Int32) = 1) ∧ Q (.inl (some (.int (0 : Int32)))) (HX I A B') 0)) ∧ (¬ (bI (decide (tch (B 10 x) (nI 0) = 40))) = 0 → (vp_in (nI x) 64 ∧ ((((A 33) (nI x).toNatClampNeg) = 0 → (vp_in (nI y) 64 ∧ ((((A 33) (nI y).toNatClampNeg) = 0 → (¬ (8 : Int32) = 0 ∧ (¬ (8 : Int32) = 0 ∧ ((((nI x) / (8 : Int32)) = ((nI y) / (8 : Int32)) → (((0 : Int32) = (0 : Int32) ∨ (0 : Int32) = 1) ∧ Q (.inl (some (.int (0 : Int32)))) (HX I A B') 0)) ∧ (¬ ((nI x) / (8 : Int32)) = ((nI y) / (8 : Int32)) → (¬ (8 : Int32) = 0 ∧ (¬ (8 : Int32) = 0 ∧ xG tb_M_override Q (88, [some (.ref 24), some (.int (nI x)), some (.int (nI y)), some (.int (1 : Int32))], [.int ((nI y) / (8 : Int32)), .int ((nI x) / (8 : Int32)), .ref 24], (HX I A B'), 0)))))))) ∧ (¬ ((A 33) (nI y).toNatClampNeg) = 0 → (((0 : Int32) = (0 : Int32) ∨ (0 : Int32) = 1) ∧ Q (.inl (some (.int (0 : Int32)))) (HX I A B') 0))))) ∧ (¬ ((A 33) (nI x).toNatClampNeg) = 0 → (((0 : Int32) = (0 : Int32) ∨ (0 : Int32) = 1) ∧ Q (.inl (some (.int (0 : Int32)))) (HX I A B') 0))))))
  by_cases w3 : tch (B 10 x) (nI 0) = 40
  · rw [decide_eq_true w3, nI_clamp (by omega), nI_clamp (by omega), x5, y5, d8 (by omega), d8 (by omega)]
    refine br_n (by decide) ⟨hi, fun z4 => ⟨hj, fun z5 => ⟨by decide, by decide, fun z6 => no (fun q => q.2.2.2.2.2.1 ((nI_eq (by omega) (by omega)).mp z6)), fun z6 => ⟨by decide, by decide, ?_⟩⟩, fun z5 => no (fun q => z5 q.2.2.2.2.1)⟩, fun z4 => no (fun q => z4 q.2.2.2.1)⟩
    refine xG.callV (F := xRun tb_M_areRelated 3) (a := 24) rfl rfl rfl rfl (p_M_areRelated h8 x1 y1 hS.hA ?_)
    refine xG.go [44, 88] 60 ?_
    show (((bI (sAn A (x / 8) (y / 8) || sAn A (y / 8) (x / 8))) = 0 → (((0 : Int32) = (0 : Int32) ∨ (0 : Int32) = 1) ∧ Q (.inl (some (.int (0 : Int32)))) (HX I A B') 0)) ∧ (¬ (bI (sAn A (x / 8) (y / 8) || sAn A (y / 8) (x / 8))) = 0 → (((1 : Int32) = (0 : Int32) ∨ (1 : Int32) = 1) ∧ Q (.inl (some (.int (1 : Int32)))) (HX I A B') 0)))
    cases hr : (sAn A (x / 8) (y / 8) || sAn A (y / 8) (x / 8)) with
    | false => exact br_y rfl (no (fun q => by have q7 := q.2.2.2.2.2.2; rw [hr] at q7; cases q7))
    | true =>
      have : ovr A B x y := ⟨(lg_cmp_eq _ _).mp z1, (lg_cmp_eq _ _).mp z2, w3, z4, z5, fun q => z6 (by rw [q]), hr⟩
      rw [decide_eq_true this] at hq
      exact br_n (by decide) ⟨Or.inr rfl, hq⟩
  · rw [decide_eq_false w3]
    exact br_y rfl (no (fun q => w3 q.2.2.1))
theorem p_M_fam0 {I : Nat → Int32} {A : Nat → Nat → Int32} {B' : Nat → Nat → Int64} {Q : xQ} {m : Nat} (hm : m < 64) (hK : ∀ f, (∀ j, j < 64 → f j = if j = m then 1 else 0) → xG tb_M_family Q (30, [some (.ref 24), some (.int (nI m)), some (.int (nI 64)), none, none, none, none], [], HX I (va_up A 34 f) B', 0)) : ∀ (k c : Nat) (f : Nat → Int32), c + k = 64 → (∀ j, j < c → f j = if j = m then 1 else 0) → xG tb_M_family Q (2, [some (.ref 24), some (.int (nI m)), some (.int (nI c)), none, none, none, none], [], HX I (va_up A 34 f) B', 0)
  | 0, c, f, e, hf => by
    obtain rfl : c = 64 := e
    refine xG.go [2, 30, 127] 60 ?_
    show (((64 : Int32) ≤ (nI 64) → xG tb_M_family Q (30, [some (.ref 24), some (.int (nI m)), some (.int (nI 64)), none, none, none, none], [], (HX I (va_up A 34 f) B'), 0)) ∧ (¬ (64 : Int32) ≤ (nI 64) → (((nI 64) = (nI m) → (vp_in (nI 64) 64 ∧ xG tb_M_family Q (2, [some (.ref 24), some (.int (nI m)), some (.int ((nI 64) + (1 : Int32))), none, none, none, none], [], (HX I (va_up A 34 (upd f (nI 64).toNatClampNeg (vp_nar .boolean (1 : Int32)))) B'), 0))) ∧ (¬ (nI 64) = (nI m) → (vp_in (nI 64) 64 ∧ xG tb_M_family Q (2, [some (.ref 24), some (.int (nI m)), some (.int ((nI 64) + (1 : Int32))), none, none, none, none], [], (HX I (va_up A 34 (upd f (nI 64).toNatClampNeg (vp_nar .boolean (0 : Int32)))) B'), 0))))))
    exact br_y (nI_le (a := 64) (b := 64) (by omega) (by omega)) (hK f hf)
  | k + 1, c, f, e, hf => by
    refine xG.go [2, 30, 127] 60 ?_
    show (((64 : Int32) ≤ (nI c) → xG tb_M_family Q (30, [some (.ref 24), some (.int (nI m)), some (.int (nI c)), none, none, none, none], [], (HX I (va_up A 34 f) B'), 0)) ∧ (¬ (64 : Int32) ≤ (nI c) → (((nI c) = (nI m) → (vp_in (nI c) 64 ∧ xG tb_M_family Q (2, [some (.ref 24), some (.int (nI m)), some (.int ((nI c) + (1 : Int32))), none, none, none, none], [], (HX I (va_up A 34 (upd f (nI c).toNatClampNeg (vp_nar .boolean (1 : Int32)))) B'), 0))) ∧ (¬ (nI c) = (nI m) → (vp_in (nI c) 64 ∧ xG tb_M_family Q (2, [some (.ref 24), some (.int (nI m)), some (.int ((nI c) + (1 : Int32))), none, none, none, none], [], (HX I (va_up A 34 (upd f (nI c).toNatClampNeg (vp_nar .boolean (0 : Int32)))) B'), 0))))))
    have hin : vp_in (nI c) 64 := vp_in_nI (by omega) (by omega)
    rw [nI_1, nI_clamp (by omega)]
    refine br_n (nI_ge (b := 64) (by omega) (by omega)) ⟨fun z => ⟨hin, ?_⟩, fun z => ⟨hin, ?_⟩⟩
    · refine p_M_fam0 hm hK k (c + 1) _ (by omega) (fun j hj => ?_)
      by_cases w : j = c
      · rw [w, pk_us, if_pos ((nI_eq (by omega) (by omega)).mp z)]
        rfl
      · rw [pk_un w]
        exact hf j (by omega)
    · refine p_M_fam0 hm hK k (c + 1) _ (by omega) (fun j hj => ?_)
      by_cases w : j = c
      · rw [w, pk_us, if_neg (fun q => z (by rw [q]))]
        rfl
      · rw [pk_un w]
        exact hf j (by omega)
/-- what is marked is of the family, and counted -/
abbrev mkS (A : Nat → Nat → Int32) (B : Nat → Nat → Int64) (mc : Nat → Nat) (n m : Nat) (f : Nat → Int32) (u : Nat) : Prop :=
  (∀ y, y < 64 → f y = 0 ∨ f y = 1) ∧ f m = 1 ∧ (∀ y, y < 64 → f y = 1 → numB mc n y = true ∧ famP A B mc m y) ∧ u = cgo (fun j => decide (f j = 1)) 64 0
/-- how far the pass has come -/
abbrev mkR (A : Nat → Nat → Int32) (B : Nat → Nat → Int64) (mc : Nat → Nat) (n u0 : Nat) (f : Nat → Int32) (u : Nat) (b : Int32) (x y : Nat) : Prop :=
  (b = 0 ∧ u = u0 ∧ (∀ x', x' < x → f x' = 1 → ∀ y', y' < 64 → numB mc n y' = true → ovr A B x' y' → f y' = 1) ∧ (f x = 1 → ∀ y', y' < y → numB mc n y' = true → ovr A B x y' → f y' = 1)) ∨ (b = 1 ∧ u0 < u)
theorem mkR_next {A : Nat → Nat → Int32} {B : Nat → Nat → Int64} {mc : Nat → Nat} {n u0 u x y : Nat} {f : Nat → Int32} {b : Int32} (h : mkR A B mc n u0 f u b x y) (hy : f x = 1 → 64 ≤ y) : mkR A B mc n u0 f u b (x + 1) 0 := by
  rcases h with ⟨h1, h2, h3, h4⟩ | h
  · refine Or.inl ⟨h1, h2, fun x' hx' hf y' hy' hn ho => ?_, fun _ y' hy' => by omega⟩
    by_cases e : x' = x
    · subst e; exact h4 hf y' (by have := hy hf; omega) hn ho
    · exact h3 x' (by omega) hf y' hy' hn ho
  · exact Or.inr h
theorem p_M_famY_105 {I : Nat → Int32} {A : Nat → Nat → Int32} {B B' : Nat → Nat → Int64} {Q : xQ} {n m x y u u0 : Nat} {mc : Nat → Nat} {f : Nat → Int32} {b : Int32} {w6 : Option Value} (hS : vSame n mc A B B') (hu : uni B n mc) (hm : numB mc n m = true) (hx : x < 64) (hy : y < 64) (hfx : f x = 1) (hs : mkS A B mc n m f u) (hr : mkR A B mc n u0 f u b x y)
    (hK : ∀ f u b w6, mkS A B mc n m f u → mkR A B mc n u0 f u b x (y + 1) → xG tb_M_family Q (53, [some (.ref 24), some (.int (nI m)), some (.int (nI u)), some (.int b), some (.int (nI x)), some (.int (nI (y + 1))), w6], [], HX I (va_up A 34 f) B', 0)) : xG tb_M_family Q (105, [some (.ref 24), some (.int (nI m)), some (.int (nI u)), some (.int b), some (.int (nI x)), some (.int (nI y)), w6], [.int (bI (numB mc n y))], HX I (va_up A 34 f) B', 0) := by
  have h8 := hS.h8
  have hu64 : u ≤ 64 := by rw [hs.2.2.2]; exact cgo_le 64 0
  have hj : vp_in (nI y) 64 := vp_in_nI hy (by omega)
  have hle : u0 ≤ u := by
    rcases hr with h | h
    · omega
    · omega
  refine xG.go [53, 127] 60 ?_
  show (((bI (numB mc n y)) = 0 → xG tb_M_family Q (53, [some (.ref 24), some (.int (nI m)), some (.int (nI u)), some (.int b), some (.int (nI x)), some (.int ((nI y) + (1 : Int32))), some (.int (bI (numB mc n y)))], [], (HX I (va_up A 34 f) B'), 0)) ∧ (¬ (bI (numB mc n y)) = 0 → (vp_in (nI y) 64 ∧ (((f (nI y).toNatClampNeg) = 0 → xG tb_M_family Q (127, [some (.ref 24), some (.int (nI m)), some (.int (nI u)), some (.int b), some (.int (nI x)), some (.int (nI y)), some (.int (bI (numB mc n y)))], [.int (nI y), .int (nI x), .ref 24], (HX I (va_up A 34 f) B'), 0)) ∧ (¬ (f (nI y).toNatClampNeg) = 0 → xG tb_M_family Q (53, [some (.ref 24), some (.int (nI m)), some (.int (nI u)), some (.int b), some (.int (nI x)), some (.int ((nI y) + (1 : Int32))), some (.int (bI (numB mc n y)))], [], (HX I (va_up A 34 f) B'), 0))))))
  rw [nI_1, nI_clamp (by omega)]
  have skip : (numB mc n y = true → ovr A B x y → f y = 1) → ∀ w6, xG tb_M_family Q (53, [some (.ref 24), some (.int (nI m)), some (.int (nI u)), some (.int b), some (.int (nI x)), some (.int (nI (y + 1))), w6], [], HX I (va_up A 34 f) B', 0) := fun q w6 => by
    refine hK f u b w6 hs ?_
    rcases hr with ⟨h1, h2, h3, h4⟩ | h
    · refine Or.inl ⟨h1, h2, h3, fun p y' hy' hn ho => ?_⟩
      by_cases e : y' = y
      · rw [e] at hn ho ⊢; exact q hn ho
      · exact h4 p y' (by omega) hn ho
    · exact Or.inr h
  cases hn : numB mc n y with
  | false => exact br_y rfl (skip (fun q => by rw [hn] at q; cases q) _)
  | true =>
    refine br_n (by decide) ⟨hj, fun z => ?_, fun z => skip (fun _ _ => (hs.1 y hy).elim (fun q => absurd q z) id) _⟩
    have hSf : vSame n mc (va_up A 34 f) B B' := hS
    refine xG.callV (F := xRun tb_M_override 4) (a := 24) rfl rfl rfl rfl (p_M_override hSf (hs.2.2.1 x hx hfx).1 hn ?_)
    rw [show decide (ovr (va_up A 34 f) B x y) = decide (ovr A B x y) from rfl]
    refine xG.go [53, 127] 60 ?_
    show (((bI (decide (ovr A B x y))) = 0 → xG tb_M_family Q (53, [some (.ref 24), some (.int (nI m)), some (.int (nI u)), some (.int b), some (.int (nI x)), some (.int ((nI y) + (1 : Int32))), some (.int (bI true))], [], (HX I (va_up A 34 f) B'), 0)) ∧ (¬ (bI (decide (ovr A B x y))) = 0 → (vp_in (nI y) 64 ∧ xG tb_M_family Q (53, [some (.ref 24), some (.int (nI m)), some (.int ((nI u) + (1 : Int32))), some (.int (1 : Int32)), some (.int (nI x)), some (.int ((nI y) + (1 : Int32))), some (.int (bI true))], [], (HX I (va_up A 34 (upd f (nI y).toNatClampNeg (vp_nar .boolean (1 : Int32)))) B'), 0))))
    rw [nI_1, nI_1, nI_clamp (by omega)]
    by_cases w : ovr A B x y
    · rw [decide_eq_true w]
      refine br_n (by decide) ⟨hj, ?_⟩
      have ef : (va_up A 34 (upd f y (vp_nar .boolean 1))) = va_up A 34 (upd f y 1) := rfl
      have hcg := (cgo_upd z 64 0).1 ⟨by omega, by omega⟩
      refine hK (upd f y 1) (u + 1) 1 _ ⟨fun e he => ?_, ?_, fun e he hf1 => ?_, ?_⟩ (Or.inr ⟨rfl, by omega⟩)
      · by_cases q : e = y
        · rw [q, pk_us]; exact Or.inr rfl
        · rw [pk_un q]; exact hs.1 e he
      · by_cases q : m = y
        · rw [q, pk_us]
        · rw [pk_un q]; exact hs.2.1
      · by_cases q : e = y
        · rw [q]
          exact ⟨hn, fam_step h8 (fun c hc => (hS.hA c hc).1) (fun c hc => (hS.hm c hc).1) hu (hs.2.2.1 x hx hfx).1 hn (hs.2.2.1 x hx hfx).2 w⟩
        · rw [pk_un q] at hf1
          exact hs.2.2.1 e he hf1
      · rw [hcg, ← hs.2.2.2]
    · rw [decide_eq_false w]
      exact br_y rfl (skip (fun _ q => absurd q w) _)
theorem p_M_famY {I : Nat → Int32} {A : Nat → Nat → Int32} {B B' : Nat → Nat → Int64} {Q : xQ} {n m x u0 : Nat} {mc : Nat → Nat} (hS : vSame n mc A B B') (e0 : I 10 = nI n) (hu : uni B n mc) (hm : numB mc n m = true) (hx : x < 64)
    (hK : ∀ f u b w5 w6, mkS A B mc n m f u → mkR A B mc n u0 f u b (x + 1) 0 → xG tb_M_family Q (43, [some (.ref 24), some (.int (nI m)), some (.int (nI u)), some (.int b), some (.int (nI (x + 1))), w5, w6], [], HX I (va_up A 34 f) B', 0)) : ∀ (k y : Nat) (f : Nat → Int32) (u : Nat) (b : Int32) (w6 : Option Value), y + k = 64 → mkS A B mc n m f u → mkR A B mc n u0 f u b x y → xG tb_M_family Q (53, [some (.ref 24), some (.int (nI m)), some (.int (nI u)), some (.int b), some (.int (nI x)), some (.int (nI y)), w6], [], HX I (va_up A 34 f) B', 0)
  | 0, y, f, u, b, w6, e, hs, hr => by
    refine xG.go [43, 53, 105, 127] 60 ?_
    show (((64 : Int32) ≤ (nI y) → xG tb_M_family Q (43, [some (.ref 24), some (.int (nI m)), some (.int (nI u)), some (.int b), some (.int ((nI x) + (1 : Int32))), some (.int (nI y)), w6], [], (HX I (va_up A 34 f) B'), 0)) ∧ (¬ (64 : Int32) ≤ (nI y) → (vp_in (nI x) 64 ∧ (((f (nI x).toNatClampNeg) = 0 → xG tb_M_family Q (43, [some (.ref 24), some (.int (nI m)), some (.int (nI u)), some (.int b), some (.int ((nI x) + (1 : Int32))), some (.int (nI y)), w6], [], (HX I (va_up A 34 f) B'), 0)) ∧ (¬ (f (nI x).toNatClampNeg) = 0 → (¬ (8 : Int32) = 0 ∧ (((I 10) ≤ ((nI y) / (8 : Int32)) → xG tb_M_family Q (105, [some (.ref 24), some (.int (nI m)), some (.int (nI u)), some (.int b), some (.int (nI x)), some (.int (nI y)), w6], [.int (0 : Int32)], (HX I (va_up A 34 f) B'), 0)) ∧ (¬ (I 10) ≤ ((nI y) / (8 : Int32)) → (¬ (8 : Int32) = 0 ∧ (¬ (8 : Int32) = 0 ∧ (vp_in ((nI y) / (8 : Int32)) 8 ∧ ((((A 29) ((nI y) / (8 : Int32)).toNatClampNeg) ≤ ((nI y) - (nI y) / (8 : Int32) * (8 : Int32)) → xG tb_M_family Q (105, [some (.ref 24), some (.int (nI m)), some (.int (nI u)), some (.int b), some (.int (nI x)), some (.int (nI y)), w6], [.int (0 : Int32)], (HX I (va_up A 34 f) B'), 0)) ∧ (¬ ((A 29) ((nI y) / (8 : Int32)).toNatClampNeg) ≤ ((nI y) - (nI y) / (8 : Int32) * (8 : Int32)) → xG tb_M_family Q (105, [some (.ref 24), some (.int (nI m)), some (.int (nI u)), some (.int b), some (.int (nI x)), some (.int (nI y)), w6], [.int (1 : Int32)], (HX I (va_up A 34 f) B'), 0))))))))))))))
    rw [nI_1]
    exact br_y (nI_le (a := 64) (by omega) (by omega)) (hK f u b _ _ hs (mkR_next hr (fun _ => by omega)))
  | k + 1, y, f, u, b, w6, e, hs, hr => by
    have h8 := hS.h8
    refine xG.go [43, 53, 105, 127] 60 ?_
    show (((64 : Int32) ≤ (nI y) → xG tb_M_family Q (43, [some (.ref 24), some (.int (nI m)), some (.int (nI u)), some (.int b), some (.int ((nI x) + (1 : Int32))), some (.int (nI y)), w6], [], (HX I (va_up A 34 f) B'), 0)) ∧ (¬ (64 : Int32) ≤ (nI y) → (vp_in (nI x) 64 ∧ (((f (nI x).toNatClampNeg) = 0 → xG tb_M_family Q (43, [some (.ref 24), some (.int (nI m)), some (.int (nI u)), some (.int b), some (.int ((nI x) + (1 : Int32))), some (.int (nI y)), w6], [], (HX I (va_up A 34 f) B'), 0)) ∧ (¬ (f (nI x).toNatClampNeg) = 0 → (¬ (8 : Int32) = 0 ∧ (((I 10) ≤ ((nI y) / (8 : Int32)) → xG tb_M_family Q (105, [some (.ref 24), some (.int (nI m)), some (.int (nI u)), some (.int b), some (.int (nI x)), some (.int (nI y)), w6], [.int (0 : Int32)], (HX I (va_up A 34 f) B'), 0)) ∧ (¬ (I 10) ≤ ((nI y) / (8 : Int32)) → (¬ (8 : Int32) = 0 ∧ (¬ (8 : Int32) = 0 ∧ (vp_in ((nI y) / (8 : Int32)) 8 ∧ ((((A 29) ((nI y) / (8 : Int32)).toNatClampNeg) ≤ ((nI y) - (nI y) / (8 : Int32) * (8 : Int32)) → xG tb_M_family Q (105, [some (.ref 24), some (.int (nI m)), some (.int (nI u)), some (.int b), some (.int (nI x)), some (.int (nI y)), w6], [.int (0 : Int32)], (HX I (va_up A 34 f) B'), 0)) ∧ (¬ ((A 29) ((nI y) / (8 : Int32)).toNatClampNeg) ≤ ((nI y) - (nI y) / (8 : Int32) * (8 : Int32)) → xG tb_M_family Q (105, [some (.ref 24), some (.int (nI m)), some (.int (nI u)), some (.int b), some (.int (nI x)), some (.int (nI y)), w6], [.int (1 : Int32)], (HX I (va_up A 34 f) B'), 0))))))))))))))
    rw [nI_1, e0, r8 (by omega), d8 (by omega), nI_clamp (by omega : x < 2 ^ 31)]
    refine br_n (nI_ge (b := 64) (by omega) (by omega)) ⟨vp_in_nI hx (by omega), fun z => ?_, fun z => ⟨by decide, ?_⟩⟩
    · exact hK f u b _ _ hs (mkR_next hr (fun q => by rw [z] at q; exact absurd q (by decide)))
    · have hfx : f x = 1 := (hs.1 x hx).elim (fun q => absurd q z) id
      have go := p_M_famY_105 (I := I) (w6 := w6) hS hu hm hx (by omega : y < 64) hfx hs hr (fun f u b w6 h1 h2 => p_M_famY hS e0 hu hm hx hK k (y + 1) f u b w6 (by omega) h1 h2)
      unfold numB at go
      refine ⟨fun z1 => ?_, fun z1 => ⟨by decide, by decide, vp_in_nI (by omega) (by omega), ?_⟩⟩
      · rw [decide_eq_false (fun w => nI_ge w (by omega) z1), Bool.false_and] at go
        exact go
      · have w : y / 8 < n := by
          rcases Nat.lt_or_ge (y / 8) n with w | w
          · exact w
          · exact absurd (nI_le w (by omega)) z1
        have h6 := (hS.hr _ w).1
        rw [decide_eq_true w, Bool.true_and] at go
        rw [nI_clamp (by omega), (hS.hr _ w).2]
        refine ⟨fun z2 => ?_, fun z2 => ?_⟩
        · rw [decide_eq_false (fun q => nI_ge q (by omega) z2)] at go
          exact go
        · have q : y % 8 < mc (y / 8) := by
            rcases Nat.lt_or_ge (y % 8) (mc (y / 8)) with q | q
            · exact q
            · exact absurd (nI_le q (by omega)) z2
          rw [decide_eq_true q] at go
          exact go
theorem p_M_famX {I : Nat → Int32} {A : Nat → Nat → Int32} {B B' : Nat → Nat → Int64} {Q : xQ} {n m u0 : Nat} {mc : Nat → Nat} (hS : vSame n mc A B B') (e0 : I 10 = nI n) (hu : uni B n mc) (hm : numB mc n m = true)
    (hE : ∀ f u b w4 w5 w6, mkS A B mc n m f u → mkR A B mc n u0 f u b 64 0 → xG tb_M_family Q (34, [some (.ref 24), some (.int (nI m)), some (.int (nI u)), some (.int b), w4, w5, w6], [], HX I (va_up A 34 f) B', 0)) : ∀ (k x : Nat) (f : Nat → Int32) (u : Nat) (b : Int32) (w5 w6 : Option Value), x + k = 64 → mkS A B mc n m f u → mkR A B mc n u0 f u b x 0 → xG tb_M_family Q (43, [some (.ref 24), some (.int (nI m)), some (.int (nI u)), some (.int b), some (.int (nI x)), w5, w6], [], HX I (va_up A 34 f) B', 0)
  | 0, x, f, u, b, w5, w6, e, hs, hr => by
    obtain rfl : x = 64 := e
    refine xG.go [34, 53, 127] 60 ?_
    show (((64 : Int32) ≤ (nI 64) → xG tb_M_family Q (34, [some (.ref 24), some (.int (nI m)), some (.int (nI u)), some (.int b), some (.int (nI 64)), w5, w6], [], (HX I (va_up A 34 f) B'), 0)) ∧ (¬ (64 : Int32) ≤ (nI 64) → xG tb_M_family Q (53, [some (.ref 24), some (.int (nI m)), some (.int (nI u)), some (.int b), some (.int (nI 64)), some (.int (0 : Int32)), w6], [], (HX I (va_up A 34 f) B'), 0)))
    exact br_y (nI_le (a := 64) (b := 64) (by omega) (by omega)) (hE f u b _ _ _ hs hr)
  | k + 1, x, f, u, b, w5, w6, e, hs, hr => by
    refine xG.go [34, 53, 127] 60 ?_
    show (((64 : Int32) ≤ (nI x) → xG tb_M_family Q (34, [some (.ref 24), some (.int (nI m)), some (.int (nI u)), some (.int b), some (.int (nI x)), w5, w6], [], (HX I (va_up A 34 f) B'), 0)) ∧ (¬ (64 : Int32) ≤ (nI x) → xG tb_M_family Q (53, [some (.ref 24), some (.int (nI m)), some (.int (nI u)), some (.int b), some (.int (nI x)), some (.int (0 : Int32)), w6], [], (HX I (va_up A 34 f) B'), 0)))
    refine br_n (nI_ge (b := 64) (by omega) (by omega)) ?_
    exact p_M_famY hS e0 hu hm (by omega) (fun f u b w5 w6 h1 h2 => p_M_famX hS e0 hu hm hE k (x + 1) f u b w5 w6 (by omega) h1 h2) 64 0 f u b w6 rfl hs hr
theorem p_M_famW {I : Nat → Int32} {A : Nat → Nat → Int32} {B B' : Nat → Nat → Int64} {Q : xQ} {n m : Nat} {mc : Nat → Nat} (hS : vSame n mc A B B') (e0 : I 10 = nI n) (hu : uni B n mc) (hm : numB mc n m = true)
    (hQ : ∀ f u, mkS A B mc n m f u → (∀ x, x < 64 → f x = 1 → ∀ y, y < 64 → numB mc n y = true → ovr A B x y → f y = 1) → Q (.inl (some (.int (nI u)))) (HX I (va_up A 34 f) B') 0) : ∀ (q : Nat) (f : Nat → Int32) (u : Nat) (w4 w5 w6 : Option Value), 65 ≤ u + q → mkS A B mc n m f u → xG tb_M_family Q (34, [some (.ref 24), some (.int (nI m)), some (.int (nI u)), some (.int 1), w4, w5, w6], [], HX I (va_up A 34 f) B', 0)
  | 0, f, u, w4, w5, w6, e, hs => by
    have : u ≤ 64 := by rw [hs.2.2.2]; exact cgo_le 64 0
    omega
  | q + 1, f, u, w4, w5, w6, e, hs => by
    refine xG.go [34, 43, 127] 60 ?_
    show (((1 : Int32) = 0 → Q (.inl (some (.int (nI u)))) (HX I (va_up A 34 f) B') 0) ∧ (¬ (1 : Int32) = 0 → xG tb_M_family Q (43, [some (.ref 24), some (.int (nI m)), some (.int (nI u)), some (.int (0 : Int32)), some (.int (0 : Int32)), w5, w6], [], (HX I (va_up A 34 f) B'), 0)))
    refine br_n (by decide) ?_
    refine p_M_famX (u0 := u) hS e0 hu hm (fun f' u' b w4 w5 w6 h1 h2 => ?_) 64 0 f u 0 w5 w6 rfl hs (Or.inl ⟨rfl, rfl, fun x' h => by omega, fun _ y' h => by omega⟩)
    rcases h2 with ⟨rfl, rfl, h3, -⟩ | ⟨rfl, h3⟩
    · refine xG.go [43, 127] 60 ?_
      show (((0 : Int32) = 0 → Q (.inl (some (.int (nI u')))) (HX I (va_up A 34 f') B') 0) ∧ (¬ (0 : Int32) = 0 → xG tb_M_family Q (43, [some (.ref 24), some (.int (nI m)), some (.int (nI u')), some (.int (0 : Int32)), some (.int (0 : Int32)), w5, w6], [], (HX I (va_up A 34 f') B'), 0)))
      exact br_y rfl (hQ f' u' h1 (fun x hx hf y hy hn ho => h3 x hx hf y hy hn ho))
    · exact p_M_famW hS e0 hu hm hQ q f' u' w4 w5 w6 (by omega) h1
theorem p_M_family {I : Nat → Int32} {A : Nat → Nat → Int32} {B B' : Nat → Nat → Int64} {Q : xQ} {n m : Nat} {mc : Nat → Nat} (hS : vSame n mc A B B') (e0 : I 10 = nI n) (hu : uni B n mc) (hm : numB mc n m = true)
    (hQ : ∀ f, (∀ y, y < 64 → (f y = 0 ∨ f y = 1) ∧ (f y = 1 ↔ fmB A B mc n m y = true)) → Q (.inl (some (.int (nI (cgo (fmB A B mc n m) (8 * n) 0))))) (HX I (va_up A 34 f) B') 0) : xRun tb_M_family 7 [.ref 24, .int (nI m)] (HX I A B') Q := by
  have h8 := hS.h8
  obtain ⟨m1, m2⟩ := numB_t hm
  refine ⟨Nat.le_of_ble_eq_true rfl, ?_⟩
  refine xG.go [2, 127] 20 ?_
  show xG tb_M_family Q (2, [some (.ref 24), some (.int (nI m)), some (.int (nI 0)), none, none, none, none], [], HX I A B', 0)
  have key := p_M_fam0 (I := I) (A := A) (B' := B') (Q := Q) (m := m) (by omega) (fun f hf => ?_) 64 0 (A 34) rfl (fun j hj => by omega)
  · rw [up_same] at key
    exact key
  · refine xG.go [34, 127] 20 ?_
    show xG tb_M_family Q (34, [some (.ref 24), some (.int (nI m)), some (.int (nI 1)), some (.int 1), none, none, none], [], HX I (va_up A 34 f) B', 0)
    have h1 : mkS A B mc n m f 1 := by
      refine ⟨fun y hy => ?_, ?_, fun y hy hf1 => ?_, ?_⟩
      · rw [hf y hy]
        split
        · exact Or.inr rfl
        · exact Or.inl rfl
      · rw [hf m (by omega), if_pos rfl]
      · rw [hf y hy] at hf1
        by_cases w : y = m
        · rw [w]; exact ⟨hm, Or.inl rfl⟩
        · rw [if_neg w] at hf1; exact absurd hf1 (by decide)
      · have e1 := (cgo_upd (f := fun _ => 0) (y := m) rfl 64 0).1 ⟨by omega, by omega⟩
        have e2 : cgo (fun j => decide (f j = 1)) 64 0 = cgo (fun j => decide (upd (fun _ => 0) m 1 j = 1)) 64 0 := cgo_ext 64 0 (fun j _ hj => by
          rw [hf j (by omega)]
          by_cases w : j = m
          · rw [w, if_pos rfl, pk_us]
          · rw [if_neg w, pk_un w])
        rw [e2, e1]
        rfl
    refine p_M_famW hS e0 hu hm (fun f' u hs hcl => ?_) 64 f 1 none none none (by omega) h1
    have hy64 : ∀ y, numB mc n y = true → y < 64 := fun y hy => by have := (numB_t hy).1; omega
    have hiff : ∀ y, y < 64 → (f' y = 1 ↔ fmB A B mc n m y = true) := fun y hy => by
      unfold fmB
      rw [Bool.and_eq_true, decide_eq_true_eq]
      constructor
      · exact fun q => hs.2.2.1 y hy q
      · rintro ⟨q1, q2⟩
        exact (fam_cl (S := fun y => y < 64 ∧ f' y = 1) h8 (fun c hc => (hS.hm c hc).1) hu hm q1 ⟨by omega, hs.2.1⟩ (fun x z hx hz ho => ⟨hy64 z hz, hcl x hx.1 hx.2 z (hy64 z hz) hz ho⟩) q2).2
    have ec : u = cgo (fmB A B mc n m) (8 * n) 0 := by
      rw [hs.2.2.2]
      have e1 : cgo (fun j => decide (f' j = 1)) 64 0 = cgo (fmB A B mc n m) 64 0 := cgo_ext 64 0 (fun j _ hj => by
        rw [Bool.eq_iff_iff, decide_eq_true_eq]
        exact hiff j (by omega))
      rw [e1]
      have e2 := cgo_more (P := fmB A B mc n m) (l := 64 - 8 * n) (8 * n) 0 (fun j h1 h2 => by unfold fmB; rw [numB_out (by omega), Bool.false_and])
      rw [show 8 * n + (64 - 8 * n) = 64 by omega] at e2
      exact e2
    rw [ec]
    exact hQ f' (fun y hy => ⟨hs.1 y hy, hiff y hy⟩)
