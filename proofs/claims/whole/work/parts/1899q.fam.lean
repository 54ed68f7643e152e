-- families
theorem sAn_trans {A : Nat → Nat → Int32} {n : Nat} (h8 : n ≤ 8) (hA : ∀ c, c < n → vAnc A c) : ∀ (c a e : Nat), c < n → a < 8 → e < 8 → sAn A a c = true → sAn A e a = true → sAn A e c = true := by
  intro c
  induction c using Nat.strongRecOn with
  | _ c ih =>
    intro a e hc ha he h1 h2
    rcases hA c hc with ⟨_, h7⟩ | ⟨p, hp, _, h7⟩
    · rw [sAn_root h7 ha, decide_eq_true_eq] at h1
      rw [← h1]; exact h2
    · rw [sAn_up h7 (by omega) ha, Bool.or_eq_true, decide_eq_true_eq] at h1
      rcases h1 with h1 | h1
      · rw [← h1]; exact h2
      · rw [sAn_up h7 (by omega) he, ih p hp a e (by omega) ha he h1 h2, Bool.or_true]
theorem sAn_chain {A : Nat → Nat → Int32} {n : Nat} (h8 : n ≤ 8) (hA : ∀ c, c < n → vAnc A c) : ∀ (c a e : Nat), c < n → a < 8 → e < 8 → sAn A a c = true → sAn A e c = true → e ≤ a → sAn A e a = true := by
  intro c
  induction c using Nat.strongRecOn with
  | _ c ih =>
    intro a e hc ha he h1 h2 hl
    rcases hA c hc with ⟨_, h7⟩ | ⟨p, hp, _, h7⟩
    · rw [sAn_root h7 ha, decide_eq_true_eq] at h1
      rw [h1]; exact h2
    · rw [sAn_up h7 (by omega) ha, Bool.or_eq_true, decide_eq_true_eq] at h1
      rcases h1 with h1 | h1
      · rw [h1]; exact h2
      · have := sAn_le h8 hA p a (by omega) ha h1
        rw [sAn_up h7 (by omega) he, decide_eq_false (by omega), Bool.false_or] at h2
        exact ih p hp a e (by omega) ha he h1 h2 hl
def canO (A : Nat → Nat → Int32) (B : Nat → Nat → Int64) (m : Nat) : Bool := decide (A 11 m = 0 ∧ tch (B 10 m) (nI 0) = 40)
def qa (A : Nat → Nat → Int32) (B : Nat → Nat → Int64) (mc : Nat → Nat) (t d : Int64) (a : Nat) : Prop := ∃ k, k < mc a ∧ B 8 (8 * a + k) = t ∧ B 10 (8 * a + k) = d ∧ canO A B (8 * a + k) = true
def oq (A : Nat → Nat → Int32) (B : Nat → Nat → Int64) (mc : Nat → Nat) (t d : Int64) (a : Nat) : Bool := !decide (owN (B 8) (B 10) t d a (mc a) 0 = -1) && canO A B (owN (B 8) (B 10) t d a (mc a) 0).toNatClampNeg
/-- within a class no two members have name and descriptor alike -/
abbrev uni (B : Nat → Nat → Int64) (n : Nat) (mc : Nat → Nat) : Prop := ∀ c k l, c < n → k < mc c → l < mc c → B 8 (8 * c + k) = B 8 (8 * c + l) → B 10 (8 * c + k) = B 10 (8 * c + l) → k = l
theorem oq_iff {A : Nat → Nat → Int32} {B : Nat → Nat → Int64} {mc : Nat → Nat} {t d : Int64} {n a : Nat} (hu : uni B n mc) (ha : a < n) (h8 : n ≤ 8) (h6 : mc a ≤ 6) : oq A B mc t d a = true ↔ qa A B mc t d a := by
  unfold oq qa
  rcases own_has (f := B 8) (g := B 10) (f' := B 8) (g' := B 10) (t := t) (d := d) (c := a) (m := mc a) (fun k _ => ⟨rfl, rfl⟩) (fun k l hk hl => hu a k l ha hk hl) with ⟨q1, -, q3⟩ | ⟨k, hk, q1, q2, q3, -⟩
  · rw [q1, decide_eq_true rfl]
    exact ⟨fun z => (by cases z), fun ⟨k, hk, z1, z2, _⟩ => absurd ⟨z1, z2⟩ (q3 k hk)⟩
  · rw [q3, decide_eq_false (fun z => m1_nI (by omega) z.symm), nI_clamp (by omega)]
    constructor
    · exact fun z => ⟨k, hk, q1, q2, z⟩
    · rintro ⟨l, hl, z1, z2, z3⟩
      rw [hu a k l ha hk hl (q1.trans z1.symm) (q2.trans z2.symm)]
      exact z3
def topF (A : Nat → Nat → Int32) (B : Nat → Nat → Int64) (mc : Nat → Nat) (t d : Int64) (c : Nat) : Nat → Nat → Nat
  | 0, a => a
  | k + 1, a => if sAn A a c = true ∧ oq A B mc t d a = true then a else topF A B mc t d c k (a + 1)
theorem topF_spec {A : Nat → Nat → Int32} {B : Nat → Nat → Int64} {mc : Nat → Nat} {t d : Int64} {c : Nat} : ∀ (k a : Nat), a + k = c → a ≤ topF A B mc t d c k a ∧ topF A B mc t d c k a ≤ c ∧ (topF A B mc t d c k a = c ∨ (sAn A (topF A B mc t d c k a) c = true ∧ oq A B mc t d (topF A B mc t d c k a) = true)) ∧ ∀ e, a ≤ e → e < topF A B mc t d c k a → ¬ (sAn A e c = true ∧ oq A B mc t d e = true)
  | 0, a, h => ⟨Nat.le_refl a, by unfold topF; omega, Or.inl (by unfold topF; omega), fun e h1 h2 => by unfold topF at h2; omega⟩
  | k + 1, a, h => by
    unfold topF
    by_cases w : sAn A a c = true ∧ oq A B mc t d a = true
    · rw [if_pos w]
      exact ⟨Nat.le_refl a, by omega, Or.inr w, fun e h1 h2 => by omega⟩
    · rw [if_neg w]
      obtain ⟨q1, q2, q3, q4⟩ := topF_spec (A := A) (B := B) (mc := mc) (t := t) (d := d) (c := c) k (a + 1) (by omega)
      refine ⟨by omega, q2, q3, fun e h1 h2 => ?_⟩
      by_cases z : e = a
      · rw [z]; exact w
      · exact q4 e (by omega) h2
def top (A : Nat → Nat → Int32) (B : Nat → Nat → Int64) (mc : Nat → Nat) (m : Nat) : Nat := topF A B mc (B 8 m) (B 10 m) (m / 8) (m / 8) 0
abbrev famP (A : Nat → Nat → Int32) (B : Nat → Nat → Int64) (mc : Nat → Nat) (x y : Nat) : Prop := x = y ∨ (canO A B x = true ∧ canO A B y = true ∧ B 8 x = B 8 y ∧ B 10 x = B 10 y ∧ top A B mc x = top A B mc y)
abbrev ovr (A : Nat → Nat → Int32) (B : Nat → Nat → Int64) (x y : Nat) : Prop := B 8 x = B 8 y ∧ B 10 x = B 10 y ∧ tch (B 10 x) (nI 0) = 40 ∧ A 11 x = 0 ∧ A 11 y = 0 ∧ ¬ x / 8 = y / 8 ∧ (sAn A (x / 8) (y / 8) || sAn A (y / 8) (x / 8)) = true
theorem numB_t {mc : Nat → Nat} {n m : Nat} (h : numB mc n m = true) : m / 8 < n ∧ m % 8 < mc (m / 8) := by
  unfold numB at h
  rw [Bool.and_eq_true, decide_eq_true_eq, decide_eq_true_eq] at h
  exact h
theorem top_anc {A : Nat → Nat → Int32} {B : Nat → Nat → Int64} {mc : Nat → Nat} {n x y : Nat} (h8 : n ≤ 8) (hA : ∀ c, c < n → vAnc A c) (hm : ∀ c, c < n → mc c ≤ 6) (hu : uni B n mc) (hx : numB mc n x = true) (hy : numB mc n y = true) (hs : sAn A (x / 8) (y / 8) = true) (hne : ¬ x / 8 = y / 8) (hc : canO A B x = true) (e8 : B 8 x = B 8 y) (e10 : B 10 x = B 10 y) : top A B mc x = top A B mc y := by
  obtain ⟨x1, x2⟩ := numB_t hx
  obtain ⟨y1, y2⟩ := numB_t hy
  unfold top
  rw [e8, e10]
  obtain ⟨p1, p2, p3, p4⟩ := topF_spec (A := A) (B := B) (mc := mc) (t := B 8 y) (d := B 10 y) (c := x / 8) (x / 8) 0 (Nat.zero_add _)
  obtain ⟨r1, r2, r3, r4⟩ := topF_spec (A := A) (B := B) (mc := mc) (t := B 8 y) (d := B 10 y) (c := y / 8) (y / 8) 0 (Nat.zero_add _)
  generalize topF A B mc (B 8 y) (B 10 y) (x / 8) (x / 8) 0 = T at *
  generalize topF A B mc (B 8 y) (B 10 y) (y / 8) (y / 8) 0 = U at *
  have hle := sAn_le h8 hA (y / 8) (x / 8) y1 (by omega) hs
  have hqa : oq A B mc (B 8 y) (B 10 y) (x / 8) = true := (oq_iff hu x1 h8 (hm _ x1)).mpr ⟨x % 8, x2, by rw [show 8 * (x / 8) + x % 8 = x by omega]; exact e8, by rw [show 8 * (x / 8) + x % 8 = x by omega]; exact e10, by rw [show 8 * (x / 8) + x % 8 = x by omega]; exact hc⟩
  have hU : U ≤ x / 8 := by
    rcases Nat.lt_or_ge (x / 8) U with q | q
    · exact absurd ⟨hs, hqa⟩ (r4 _ (by omega) q)
    · exact q
  have hU2 : sAn A U (y / 8) = true ∧ oq A B mc (B 8 y) (B 10 y) U = true := by
    rcases r3 with q | q
    · omega
    · exact q
  have hU3 : sAn A U (x / 8) = true := sAn_chain h8 hA (y / 8) (x / 8) U y1 (by omega) (by omega) hs hU2.1 hU
  rcases Nat.lt_trichotomy T U with q | q | q
  · rcases p3 with p | p
    · omega
    · exact absurd ⟨sAn_trans h8 hA (y / 8) (x / 8) T y1 (by omega) (by omega) hs p.1, p.2⟩ (r4 T (by omega) q)
  · exact q
  · exact absurd ⟨hU3, hU2.2⟩ (p4 U (by omega) q)
theorem fam_step {A : Nat → Nat → Int32} {B : Nat → Nat → Int64} {mc : Nat → Nat} {n m x y : Nat} (h8 : n ≤ 8) (hA : ∀ c, c < n → vAnc A c) (hm : ∀ c, c < n → mc c ≤ 6) (hu : uni B n mc) (hx : numB mc n x = true) (hy : numB mc n y = true) (hf : famP A B mc m x) (ho : ovr A B x y) : famP A B mc m y := by
  obtain ⟨o1, o2, o3, o4, o5, o6, o7⟩ := ho
  have cx : canO A B x = true := decide_eq_true ⟨o4, o3⟩
  have cy : canO A B y = true := decide_eq_true ⟨o5, by rw [← o2]; exact o3⟩
  have et : top A B mc x = top A B mc y := by
    rw [Bool.or_eq_true] at o7
    rcases o7 with q | q
    · exact top_anc h8 hA hm hu hx hy q o6 cx o1 o2
    · exact (top_anc h8 hA hm hu hy hx q (fun z => o6 z.symm) cy o1.symm o2.symm).symm
  rcases hf with rfl | ⟨f1, f2, f3, f4, f5⟩
  · exact Or.inr ⟨cx, cy, o1, o2, et⟩
  · exact Or.inr ⟨f1, cy, f3.trans o1, f4.trans o2, f5.trans et⟩
theorem fam_cl {A : Nat → Nat → Int32} {B : Nat → Nat → Int64} {mc : Nat → Nat} {n m y : Nat} {S : Nat → Prop} (h8 : n ≤ 8) (hm : ∀ c, c < n → mc c ≤ 6) (hu : uni B n mc) (hx : numB mc n m = true) (hy : numB mc n y = true) (h0 : S m) (hS : ∀ x y, S x → numB mc n y = true → ovr A B x y → S y) (hf : famP A B mc m y) : S y := by
  obtain ⟨x1, x2⟩ := numB_t hx
  obtain ⟨y1, y2⟩ := numB_t hy
  rcases hf with rfl | ⟨f1, f2, f3, f4, f5⟩
  · exact h0
  · unfold top at f5
    rw [← f3, ← f4] at f5
    obtain ⟨p1, p2, p3, p4⟩ := topF_spec (A := A) (B := B) (mc := mc) (t := B 8 m) (d := B 10 m) (c := m / 8) (m / 8) 0 (Nat.zero_add _)
    obtain ⟨r1, r2, r3, r4⟩ := topF_spec (A := A) (B := B) (mc := mc) (t := B 8 m) (d := B 10 m) (c := y / 8) (y / 8) 0 (Nat.zero_add _)
    rw [← f5] at r2 r3
    generalize topF A B mc (B 8 m) (B 10 m) (m / 8) (m / 8) 0 = T at *
    have em : 8 * (m / 8) + m % 8 = m := by omega
    have ey : 8 * (y / 8) + y % 8 = y := by omega
    have cm := of_decide_eq_true f1
    have cy := of_decide_eq_true f2
    have key : ∃ k, k < mc T ∧ B 8 (8 * T + k) = B 8 m ∧ B 10 (8 * T + k) = B 10 m ∧ canO A B (8 * T + k) = true ∧ S (8 * T + k) := by
      by_cases w : T = m / 8
      · rw [w]
        exact ⟨m % 8, x2, by rw [em], by rw [em], by rw [em]; exact f1, by rw [em]; exact h0⟩
      · rcases p3 with p | p
        · exact absurd p w
        · obtain ⟨k, hk, z1, z2, z3⟩ := (oq_iff hu (by omega) h8 (hm T (by omega))).mp p.2
          have := hm T (by omega)
          refine ⟨k, hk, z1, z2, z3, hS m _ h0 (numB_ck (by omega) hk this) ⟨z1.symm, z2.symm, cm.2, cm.1, (of_decide_eq_true z3).1, by omega, ?_⟩⟩
          rw [show (8 * T + k) / 8 = T by omega, p.1, Bool.or_true]
    obtain ⟨k, hk, z1, z2, z3, z4⟩ := key
    have m6 := hm T (by omega)
    by_cases w : T = y / 8
    · have : k = y % 8 := hu T k (y % 8) (by omega) hk (by rw [w]; exact y2) (by rw [z1, w, ey]; exact f3) (by rw [z2, w, ey]; exact f4)
      rw [this, w, ey] at z4
      exact z4
    · rcases r3 with p | p
      · exact absurd p w
      · refine hS _ y z4 hy ⟨z1.trans f3, z2.trans f4, (of_decide_eq_true z3).2, (of_decide_eq_true z3).1, cy.1, by omega, ?_⟩
        rw [show (8 * T + k) / 8 = T by omega, p.1, Bool.true_or]
theorem cgo_le {P : Nat → Bool} : ∀ (k c : Nat), cgo P k c ≤ k
  | 0, c => Nat.le_refl 0
  | k + 1, c => by
    unfold cgo
    have := cgo_le (P := P) k (c + 1)
    split <;> omega
theorem cgo_ext {P R : Nat → Bool} : ∀ (k c : Nat), (∀ j, c ≤ j → j < c + k → P j = R j) → cgo P k c = cgo R k c
  | 0, c, h => rfl
  | k + 1, c, h => by
    unfold cgo
    rw [h c (by omega) (by omega), cgo_ext k (c + 1) (fun j h1 h2 => h j (by omega) (by omega))]
theorem cgo_more {P : Nat → Bool} {l : Nat} : ∀ (k c : Nat), (∀ j, c + k ≤ j → j < c + k + l → P j = false) → cgo P (k + l) c = cgo P k c
  | 0, c, h => by
    rw [Nat.zero_add]
    show cgo P l c = 0
    have z : ∀ l c, (∀ j, c ≤ j → j < c + l → P j = false) → cgo P l c = 0 := fun l => by
      induction l with
      | zero => exact fun c h => rfl
      | succ l ih => exact fun c h => by unfold cgo; rw [h c (by omega) (by omega), ih (c + 1) (fun j h1 h2 => h j (by omega) (by omega))]; rfl
    exact z l c (fun j h1 h2 => h j (by omega) (by omega))
  | k + 1, c, h => by
    rw [show k + 1 + l = (k + l) + 1 by omega]
    unfold cgo
    rw [cgo_more k (c + 1) (fun j h1 h2 => h j (by omega) (by omega))]
theorem cgo_upd {f : Nat → Int32} {y : Nat} (hf : f y = 0) : ∀ (k c : Nat), (c ≤ y ∧ y < c + k → cgo (fun j => decide (upd f y 1 j = 1)) k c = cgo (fun j => decide (f j = 1)) k c + 1) ∧ (¬ (c ≤ y ∧ y < c + k) → cgo (fun j => decide (upd f y 1 j = 1)) k c = cgo (fun j => decide (f j = 1)) k c)
  | 0, c => ⟨fun h => by omega, fun _ => rfl⟩
  | k + 1, c => by
    obtain ⟨q1, q2⟩ := cgo_upd hf k (c + 1)
    unfold cgo
    by_cases w : c = y
    · subst w
      rw [q2 (by omega)]
      have e1 : decide (upd f c 1 c = 1) = true := by rw [pk_us]; rfl
      have e2 : decide (f c = 1) = false := by rw [hf]; rfl
      exact ⟨fun _ => by rw [e1, e2, if_pos rfl, if_neg (by decide)]; omega, fun h => absurd ⟨Nat.le_refl c, by omega⟩ h⟩
    · have e1 : decide (upd f y 1 c = 1) = decide (f c = 1) := by rw [pk_un w]
      rw [e1]
      refine ⟨fun h => ?_, fun h => ?_⟩
      · rw [q1 (by omega)]; omega
      · rw [q2 (by omega)]
