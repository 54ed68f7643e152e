-- a name in another package, both sides
def lst (t : Int64) : Int64 := if lsl t < 8 then xushr t ((8 : Int32) * nI (lsl t)) else 0
def plc (s : Nat) : Int64 := if s < 8 then xshl 47 ((8 : Int32) * nI s) else 0
def inP (t to : Int64) : Int64 := if to = 0 then lst t else if 8 < tlen to + 1 + tlen (lst t) then 0 else (to ||| plc (tlen to)) ||| xshl (lst t) ((8 : Int32) * nI (tlen to + 1))
def wpF (t : Int64) (f g : Nat) : Nat → Nat → Int64 → Int64
  | 0, _, r => r
  | k + 1, i, r => wpF t f g k (i + 1) (r ||| xshl (tch t (nI (f + i))).toInt64 ((8 : Int32) * nI (g + i)))
def wiP (t to : Int64) : Int64 := if 8 < (if 0 < mlen to then mlen to + 1 else 0) + (mlen t - lsl t) then 0 else wpF t (lsl t) (if 0 < mlen to then mlen to + 1 else 0) (mlen t - lsl t) 0 (if 0 < mlen to then to ||| plc (mlen to) else 0)
theorem wpF_bit (t : Int64) (f g : Nat) : ∀ (k i : Nat) (r : Int64), f + i + k ≤ 8 → g + i + k ≤ 8 → ∀ b, b < 64 → tb (wpF t f g k i r) b = (tb r b || (decide (8 * (g + i) ≤ b) && decide (b < 8 * (g + i + k)) && tb t (8 * f + b - 8 * g)))
  | 0, i, r, _, _, b, hb => by
    unfold wpF
    by_cases h1 : 8 * (g + i) ≤ b
    · rw [decide_eq_false (by omega : ¬ b < 8 * (g + i + 0)), Bool.and_false, Bool.false_and, Bool.or_false]
    · rw [decide_eq_false h1, Bool.false_and, Bool.false_and, Bool.or_false]
  | k + 1, i, r, h1, h2, b, hb => by
    unfold wpF
    rw [wpF_bit t f g k (i + 1) _ (by omega) (by omega) b hb, tb_or, tb_shl _ (by omega) hb, tb_tch t (by omega)]
    by_cases q1 : 8 * (g + i) ≤ b
    · by_cases q2 : b < 8 * (g + i) + 8
      · rw [show 8 * (f + i) + (b - 8 * (g + i)) = 8 * f + b - 8 * g by omega, decide_eq_true q1, decide_eq_true (by omega : b - 8 * (g + i) < 8), decide_eq_false (by omega : ¬ 8 * (g + (i + 1)) ≤ b), decide_eq_true (by omega : b < 8 * (g + i + (k + 1)))]
        simp
      · rw [decide_eq_false (by omega : ¬ b - 8 * (g + i) < 8), decide_eq_true q1, decide_eq_true (by omega : 8 * (g + (i + 1)) ≤ b), show g + (i + 1) + k = g + i + (k + 1) by omega]
        simp
    · rw [decide_eq_false q1, decide_eq_false (by omega : ¬ 8 * (g + (i + 1)) ≤ b)]
      simp
theorem tb_lst {t : Int64} (h : lsl t < 8) (b : Nat) : tb (lst t) b = tb t (8 * lsl t + b) := by
  unfold lst
  rw [if_pos h, tb_ushr t h]
theorem tch_lst {t : Int64} (h : lsl t < 8) {i : Nat} (hi : i < 8) : tch (lst t) (nI i) = if lsl t + i < 8 then tch t (nI (lsl t + i)) else 0 := by
  by_cases w : lsl t + i < 8
  · rw [if_pos w]
    refine tch_ext hi w fun j hj => ?_
    rw [tb_lst h, show 8 * lsl t + (8 * i + j) = 8 * (lsl t + i) + j by omega]
  · rw [if_neg w]
    refine tch_z' hi fun j hj => ?_
    rw [tb_lst h]
    exact tb_out (by omega)
theorem tlen_lst {t : Int64} (h : okT t) : tlen (lst t) = tlen t - lsl t := by
  have hl := okT_ls h
  obtain ⟨h1, h2, -, -, h3, h4, h5⟩ := okT_len h
  refine tlen_is (by omega) (Or.inr ?_) (fun i h6 h7 => ?_)
  · rw [tch_lst (by omega) (by omega), if_pos (by omega), show lsl t + (tlen t - lsl t - 1) = tlen t - 1 by omega]
    exact (h3 (tlen t - 1) (by omega)).1
  · rw [tch_lst (by omega) h7]
    split
    · exact h5 _ (by omega) (by omega)
    · rfl
theorem tb_plc {s b : Nat} (hs : s < 8) (hb : b < 64) : tb (plc s) b = (decide (8 * s ≤ b) && tb 47 (b - 8 * s)) := by
  unfold plc
  rw [if_pos hs, tb_shl 47 hs hb]
theorem tb_47 : ∀ b, b < 64 → 8 ≤ b → tb 47 b = false := by decide
theorem inP_wi {t to : Int64} (h : okT t) (hto : to = 0 ∨ okT to) : wiP t to = inP t to := by
  have hl := okT_ls h
  have e3 := tlen_lst h
  obtain ⟨h1, h2, em, -, h3, h4, h5⟩ := okT_len h
  unfold wiP inP
  rw [em, e3]
  rcases hto with rfl | ho
  · have e0 : mlen 0 = 0 := by decide
    rw [show (if 0 < mlen (0 : Int64) then mlen (0 : Int64) + 1 else 0) = 0 from if_neg (by rw [e0]; omega), show (if 0 < mlen (0 : Int64) then (0 : Int64) ||| plc (mlen (0 : Int64)) else 0) = 0 from if_neg (by rw [e0]; omega), if_pos rfl, if_neg (by omega)]
    refine i64_ext fun b hb => ?_
    show tb _ b = tb _ b
    rw [wpF_bit t _ _ _ _ _ (by omega) (by omega) b hb, tb_lst (by omega), tb_0, Bool.false_or]
    by_cases q : b < 8 * (tlen t - lsl t)
    · rw [decide_eq_true (by omega : 8 * (0 + 0) ≤ b), decide_eq_true (by omega : b < 8 * (0 + 0 + (tlen t - lsl t))), Bool.true_and, Bool.true_and, show 8 * lsl t + b - 8 * 0 = 8 * lsl t + b by omega]
    · rw [decide_eq_false (by omega : ¬ b < 8 * (0 + 0 + (tlen t - lsl t))), Bool.and_false, Bool.false_and, tb_hi h5 (by omega)]
  · obtain ⟨o1, o2, om, -, o3, o4, o5⟩ := okT_len ho
    have ne : ¬ to = 0 := fun z => by
      rw [z] at o1
      exact absurd o1 (by decide)
    rw [show (if 0 < mlen to then mlen to + 1 else 0) = tlen to + 1 from by rw [om, if_pos (by omega)], show (if 0 < mlen to then to ||| plc (mlen to) else 0) = to ||| plc (tlen to) from by rw [om, if_pos (by omega)], if_neg ne]
    by_cases w : 8 < tlen to + 1 + (tlen t - lsl t)
    · rw [if_pos w, if_pos w]
    · rw [if_neg w, if_neg w]
      refine i64_ext fun b hb => ?_
      show tb _ b = tb _ b
      rw [wpF_bit t _ _ _ _ _ (by omega) (by omega) b hb, tb_or (to ||| plc (tlen to)), tb_shl _ (by omega) hb, tb_lst (by omega)]
      congr 1
      by_cases q1 : 8 * (tlen to + 1) ≤ b
      · rw [decide_eq_true q1, Bool.true_and, Bool.true_and, show 8 * lsl t + (b - 8 * (tlen to + 1)) = 8 * lsl t + b - 8 * (tlen to + 1) by omega]
        by_cases q : b < 8 * (tlen to + 1 + 0 + (tlen t - lsl t))
        · rw [decide_eq_true q, Bool.true_and]
        · rw [decide_eq_false q, Bool.false_and, tb_hi h5 (by omega)]
      · rw [decide_eq_false q1, Bool.false_and, Bool.false_and, Bool.false_and]
theorem okT_inP {t to : Int64} (h : okT t) (hto : to = 0 ∨ okT to) (hn : ¬ inP t to = 0) : okT (inP t to) := by
  have hl := okT_ls h
  have e3 := tlen_lst h
  obtain ⟨h1, h2, em, -, h3, h4, h5⟩ := okT_len h
  unfold inP at hn ⊢
  rcases hto with rfl | ho
  · rw [if_pos rfl]
    refine ⟨tlen t - lsl t, by omega, by omega, fun i hi => ?_, ?_, fun i h6 h7 => ?_⟩
    · rw [tch_lst (by omega) (by omega), if_pos (by omega)]
      exact h3 _ (by omega)
    · rw [tch_lst (by omega) (by omega), if_pos (by omega), show lsl t + (tlen t - lsl t - 1) = tlen t - 1 by omega]
      exact h4
    · rw [tch_lst (by omega) h7]
      split
      · exact h5 _ (by omega) (by omega)
      · rfl
  · obtain ⟨o1, o2, om, -, o3, o4, o5⟩ := okT_len ho
    have ne : ¬ to = 0 := fun z => by
      rw [z] at o1
      exact absurd o1 (by decide)
    rw [if_neg ne, e3] at hn ⊢
    by_cases w : 8 < tlen to + 1 + (tlen t - lsl t)
    · rw [if_pos w] at hn; exact absurd rfl hn
    rw [if_neg w]
    have bits : ∀ b, b < 64 → tb ((to ||| plc (tlen to)) ||| xshl (lst t) ((8 : Int32) * nI (tlen to + 1))) b = ((tb to b || (decide (8 * tlen to ≤ b) && tb 47 (b - 8 * tlen to))) || (decide (8 * (tlen to + 1) ≤ b) && tb t (8 * lsl t + (b - 8 * (tlen to + 1))))) := fun b hb => by
      rw [tb_or (to ||| plc (tlen to)), tb_or, tb_plc (by omega) hb, tb_shl _ (by omega) hb, tb_lst (by omega)]
    have c1 : ∀ i, i < tlen to → tch ((to ||| plc (tlen to)) ||| xshl (lst t) ((8 : Int32) * nI (tlen to + 1))) (nI i) = tch to (nI i) := fun i hi => by
      refine tch_ext (by omega) (by omega) fun j hj => ?_
      rw [bits _ (by omega), decide_eq_false (by omega), decide_eq_false (by omega)]
      simp
    have c2 : tch ((to ||| plc (tlen to)) ||| xshl (lst t) ((8 : Int32) * nI (tlen to + 1))) (nI (tlen to)) = 47 := by
      have e47 : tch 47 (nI 0) = 47 := by decide
      rw [← e47]
      refine tch_ext (by omega) (by omega) fun j hj => ?_
      rw [bits _ (by omega), decide_eq_true (by omega), decide_eq_false (by omega), tb_hi o5 (by omega), show 8 * tlen to + j - 8 * tlen to = 8 * 0 + j by omega]
      simp
    have c3 : ∀ i, tlen to < i → i < 8 → tch ((to ||| plc (tlen to)) ||| xshl (lst t) ((8 : Int32) * nI (tlen to + 1))) (nI i) = if lsl t + (i - (tlen to + 1)) < 8 then tch t (nI (lsl t + (i - (tlen to + 1)))) else 0 := fun i hi h8 => by
      have hb : ∀ j, j < 8 → tb ((to ||| plc (tlen to)) ||| xshl (lst t) ((8 : Int32) * nI (tlen to + 1))) (8 * i + j) = tb t (8 * (lsl t + (i - (tlen to + 1))) + j) := fun j hj => by
        rw [bits _ (by omega), tb_hi o5 (by omega), tb_47 _ (by omega) (by omega), decide_eq_true (by omega : 8 * (tlen to + 1) ≤ 8 * i + j), Bool.and_false, Bool.or_false, Bool.false_or, Bool.true_and]
        congr 1
        omega
      split
      · exact tch_ext h8 (by omega) hb
      · exact tch_z' h8 fun j hj => (hb j hj).trans (tb_out (by omega))
    generalize ((to ||| plc (tlen to)) ||| xshl (lst t) ((8 : Int32) * nI (tlen to + 1))) = r at c1 c2 c3 ⊢
    refine ⟨tlen to + 1 + (tlen t - lsl t), by omega, by omega, fun i hi => ?_, ?_, fun i h6 h7 => ?_⟩
    · rcases Nat.lt_trichotomy i (tlen to) with q | q | q
      · rw [c1 i q]; exact o3 i q
      · rw [q, c2]; exact ⟨by decide, by decide⟩
      · rw [c3 i q (by omega), if_pos (by omega)]
        exact h3 _ (by omega)
    · rw [c3 _ (by omega) (by omega), if_pos (by omega), show lsl t + (tlen to + 1 + (tlen t - lsl t) - 1 - (tlen to + 1)) = tlen t - 1 by omega]
      exact h4
    · rw [c3 i (by omega) h7]
      split
      · exact h5 _ (by omega) (by omega)
      · rfl
