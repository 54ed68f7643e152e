set_option maxRecDepth 100000 in
set_option maxHeartbeats 2000000 in
theorem start_2 {p : Program} {e : Env} {s : State} {m : MethodId} {below : List Frame} {meth : Method} {c : Code} (l : Launch) (hlo : xLo l) {b L : Nat} {xs : Nat → Int32} (hL : L ≤ 3584) (hex : c.exceptionTable.isEmpty = true)
    (hx : p.tables.exec = Jvm.exec) (hb : c.code = code) (hr : meth.sig.returnType = ret) (hml : c.maxLocals = 8) (hown : s.vm.findClass R_law = some m.cls) (hts : ∀ w ∈ lw_tbl, w.before #[Value.ref b] s = true) (hXs : va_X b L xs s s.heap) (hbl : b < s.heap.size) (hlocks : meth.locks = false) (hHs : xHs s)
    {dC : Nat → ClassId} {dI : Nat → Nat → Nat} {A : Nat → Prop} (hA : ∀ q : Nat, s.heap.size ≤ q → A q) (hAd : ∀ q, A q → s.heap.size ≤ q) {n0 nq1 nq2 nq3 nq4 nq5 nq6 nq7 nq8 nq9 nq10 nq11 nq12 nq13 nq14 nq15 nq16 nq17 nq18 nq19 nq20 nq21 nq22 nq23 m0 mq1 mq2 mq3 mq4 mq5 mq6 mq7 mq8 mq9 mq10 mq11 mq12 mq13 mq14 mq15 mq16 o0 : Nat} {nc2 nc3 nc4 nc5 nc6 nc7 nc8 nc9 nc10 nc11 nc13 nc15 nc17 nc18 nc20 nc21 nc23 mc1 mc2 mc3 mc4 mc5 mc6 mc7 mc8 mc9 mc10 mc11 mc12 mc13 mc14 mc15 mc16 oc : ClassId} {H : Heap} {locs : List Loc} {ls : Array Slot} (hS : va_S A s.heap H locs)
    (hl : lv_has ls 8 [(4, .int 0), (3, .ref o0), (2, .ref m0), (1, .ref n0), (0, .ref b)]) (hP : va_P (dC, dI) xCl [(n0, .inr (0, [.ref nq1, .ref nq12, .ref nq14, .ref nq16, .ref nq19, .ref nq22])), (nq1, .inr (1, [.ref nq2, .ref nq3, .ref nq4, .ref nq5, .ref nq6, .ref nq7, .ref nq8, .ref nq9, .ref nq10, .ref nq11, .int 0])), (nq2, .inl (nc2, (8, .inr (.inl (fun _ => 0))))), (nq3, .inl (nc3, (8, .inr (.inl (fun _ => 0))))), (nq4, .inl (nc4, (8, .inl (fun _ => 0)))), (nq5, .inl (nc5, (8, .inl (fun _ => 0)))), (nq6, .inl (nc6, (8, .inl (fun _ => 0)))), (nq7, .inl (nc7, (8, .inl (fun _ => 0)))), (nq8, .inl (nc8, (64, .inr (.inl (fun _ => 0))))), (nq9, .inl (nc9, (64, .inr (.inl (fun _ => 0))))), (nq10, .inl (nc10, (64, .inr (.inl (fun _ => 0))))), (nq11, .inl (nc11, (64, .inl (fun _ => 0)))), (nq12, .inr (2, [.ref nq13, .int 0])), (nq13, .inl (nc13, (512, .inl (fun _ => 0)))), (nq14, .inr (2, [.ref nq15, .int 0])), (nq15, .inl (nc15, (512, .inl (fun _ => 0)))), (nq16, .inr (3, [.ref nq1, .ref nq12, .ref nq17, .int 0, .ref nq18, .int 0])), (nq17, .inl (nc17, (22, .inl (fun _ => 0)))), (nq18, .inl (nc18, (15, .inl (fun _ => 0)))), (nq19, .inr (3, [.ref nq1, .ref nq14, .ref nq20, .int 0, .ref nq21, .int 0])), (nq20, .inl (nc20, (22, .inl (fun _ => 0)))), (nq21, .inl (nc21, (15, .inl (fun _ => 0)))), (nq22, .inr (4, [.ref nq1, .ref nq12, .ref nq23, .int 0, .int 0])), (nq23, .inl (nc23, (15, .inl (fun _ => 0)))), (m0, .inr (5, [.int 0, .int 0, .ref mq1, .ref mq2, .ref mq3, .ref mq4, .ref mq5, .ref mq6, .ref mq7, .ref mq8, .ref mq9, .ref mq10, .ref mq11, .int 0, .ref mq12, .int 0, .int 0, .ref mq13, .ref mq14, .ref mq15, .int 0, .ref mq16, .int 0])), (mq1, .inl (mc1, (8, .inr (.inl (fun _ => 0))))), (mq2, .inl (mc2, (8, .inr (.inl (fun _ => 0))))), (mq3, .inl (mc3, (8, .inl (fun _ => 0)))), (mq4, .inl (mc4, (8, .inl (fun _ => 0)))), (mq5, .inl (mc5, (8, .inl (fun _ => 0)))), (mq6, .inl (mc6, (64, .inr (.inl (fun _ => 0))))), (mq7, .inl (mc7, (64, .inr (.inl (fun _ => 0))))), (mq8, .inl (mc8, (64, .inr (.inl (fun _ => 0))))), (mq9, .inl (mc9, (64, .inl (fun _ => 0)))), (mq10, .inl (mc10, (64, .inl (fun _ => 0)))), (mq11, .inl (mc11, (480, .inl (fun _ => 0)))), (mq12, .inl (mc12, (480, .inl (fun _ => 0)))), (mq13, .inl (mc13, (960, .inl (fun _ => 0)))), (mq14, .inl (mc14, (15, .inl (fun _ => 0)))), (mq15, .inl (mc15, (64, .inl (fun _ => 0)))), (mq16, .inl (mc16, (14, .inl (fun _ => 0)))), (o0, .inl (oc, (1, .inr (.inl (fun _ => 0)))))] H) (hD : va_D A [(n0, .inr (0, [.ref nq1, .ref nq12, .ref nq14, .ref nq16, .ref nq19, .ref nq22])), (nq1, .inr (1, [.ref nq2, .ref nq3, .ref nq4, .ref nq5, .ref nq6, .ref nq7, .ref nq8, .ref nq9, .ref nq10, .ref nq11, .int 0])), (nq2, .inl (nc2, (8, .inr (.inl (fun _ => 0))))), (nq3, .inl (nc3, (8, .inr (.inl (fun _ => 0))))), (nq4, .inl (nc4, (8, .inl (fun _ => 0)))), (nq5, .inl (nc5, (8, .inl (fun _ => 0)))), (nq6, .inl (nc6, (8, .inl (fun _ => 0)))), (nq7, .inl (nc7, (8, .inl (fun _ => 0)))), (nq8, .inl (nc8, (64, .inr (.inl (fun _ => 0))))), (nq9, .inl (nc9, (64, .inr (.inl (fun _ => 0))))), (nq10, .inl (nc10, (64, .inr (.inl (fun _ => 0))))), (nq11, .inl (nc11, (64, .inl (fun _ => 0)))), (nq12, .inr (2, [.ref nq13, .int 0])), (nq13, .inl (nc13, (512, .inl (fun _ => 0)))), (nq14, .inr (2, [.ref nq15, .int 0])), (nq15, .inl (nc15, (512, .inl (fun _ => 0)))), (nq16, .inr (3, [.ref nq1, .ref nq12, .ref nq17, .int 0, .ref nq18, .int 0])), (nq17, .inl (nc17, (22, .inl (fun _ => 0)))), (nq18, .inl (nc18, (15, .inl (fun _ => 0)))), (nq19, .inr (3, [.ref nq1, .ref nq14, .ref nq20, .int 0, .ref nq21, .int 0])), (nq20, .inl (nc20, (22, .inl (fun _ => 0)))), (nq21, .inl (nc21, (15, .inl (fun _ => 0)))), (nq22, .inr (4, [.ref nq1, .ref nq12, .ref nq23, .int 0, .int 0])), (nq23, .inl (nc23, (15, .inl (fun _ => 0)))), (m0, .inr (5, [.int 0, .int 0, .ref mq1, .ref mq2, .ref mq3, .ref mq4, .ref mq5, .ref mq6, .ref mq7, .ref mq8, .ref mq9, .ref mq10, .ref mq11, .int 0, .ref mq12, .int 0, .int 0, .ref mq13, .ref mq14, .ref mq15, .int 0, .ref mq16, .int 0])), (mq1, .inl (mc1, (8, .inr (.inl (fun _ => 0))))), (mq2, .inl (mc2, (8, .inr (.inl (fun _ => 0))))), (mq3, .inl (mc3, (8, .inl (fun _ => 0)))), (mq4, .inl (mc4, (8, .inl (fun _ => 0)))), (mq5, .inl (mc5, (8, .inl (fun _ => 0)))), (mq6, .inl (mc6, (64, .inr (.inl (fun _ => 0))))), (mq7, .inl (mc7, (64, .inr (.inl (fun _ => 0))))), (mq8, .inl (mc8, (64, .inr (.inl (fun _ => 0))))), (mq9, .inl (mc9, (64, .inl (fun _ => 0)))), (mq10, .inl (mc10, (64, .inl (fun _ => 0)))), (mq11, .inl (mc11, (480, .inl (fun _ => 0)))), (mq12, .inl (mc12, (480, .inl (fun _ => 0)))), (mq13, .inl (mc13, (960, .inl (fun _ => 0)))), (mq14, .inl (mc14, (15, .inl (fun _ => 0)))), (mq15, .inl (mc15, (64, .inl (fun _ => 0)))), (mq16, .inl (mc16, (14, .inl (fun _ => 0)))), (o0, .inl (oc, (1, .inr (.inl (fun _ => 0)))))]) (hK : va_K (dC, dI) xCl [(nc2, .long), (nc3, .long), (nc4, .int), (nc5, .boolean), (nc6, .int), (nc7, .int), (nc8, .long), (nc9, .long), (nc10, .long), (nc11, .boolean), (nc13, .int), (nc15, .int), (nc17, .int), (nc18, .int), (nc20, .int), (nc21, .int), (nc23, .int), (mc1, .long), (mc2, .long), (mc3, .int), (mc4, .boolean), (mc5, .int), (mc6, .long), (mc7, .long), (mc8, .long), (mc9, .boolean), (mc10, .boolean), (mc11, .int), (mc12, .int), (mc13, .int), (mc14, .int), (mc15, .int), (mc16, .int), (oc, .long)] s) :
    W p l e room_1 s m #[Value.ref b] below meth c H locs 42 3852 (lw_Z below #[Value.ref b] s) (F0 m 23 ls []) := by
  have e_1 : nc2 = nc3 := ra_eq (ty := .long) (by decide) (hK.2 1 _ rfl).2 (hK.2 0 _ rfl).2
  subst e_1
  have e_4 : nc4 = nc6 := ra_eq (ty := .int) (by decide) (hK.2 4 _ rfl).2 (hK.2 2 _ rfl).2
  subst e_4
  have e_5 : nc4 = nc7 := ra_eq (ty := .int) (by decide) (hK.2 5 _ rfl).2 (hK.2 2 _ rfl).2
  subst e_5
  have e_6 : nc2 = nc8 := ra_eq (ty := .long) (by decide) (hK.2 6 _ rfl).2 (hK.2 0 _ rfl).2
  subst e_6
  have e_7 : nc2 = nc9 := ra_eq (ty := .long) (by decide) (hK.2 7 _ rfl).2 (hK.2 0 _ rfl).2
  subst e_7
  have e_8 : nc2 = nc10 := ra_eq (ty := .long) (by decide) (hK.2 8 _ rfl).2 (hK.2 0 _ rfl).2
  subst e_8
  have e_9 : nc5 = nc11 := ra_eq (ty := .boolean) (by decide) (hK.2 9 _ rfl).2 (hK.2 3 _ rfl).2
  subst e_9
  have e_10 : nc4 = nc13 := ra_eq (ty := .int) (by decide) (hK.2 10 _ rfl).2 (hK.2 2 _ rfl).2
  subst e_10
  have e_11 : nc4 = nc15 := ra_eq (ty := .int) (by decide) (hK.2 11 _ rfl).2 (hK.2 2 _ rfl).2
  subst e_11
  have e_12 : nc4 = nc17 := ra_eq (ty := .int) (by decide) (hK.2 12 _ rfl).2 (hK.2 2 _ rfl).2
  subst e_12
  have e_13 : nc4 = nc18 := ra_eq (ty := .int) (by decide) (hK.2 13 _ rfl).2 (hK.2 2 _ rfl).2
  subst e_13
  have e_14 : nc4 = nc20 := ra_eq (ty := .int) (by decide) (hK.2 14 _ rfl).2 (hK.2 2 _ rfl).2
  subst e_14
  have e_15 : nc4 = nc21 := ra_eq (ty := .int) (by decide) (hK.2 15 _ rfl).2 (hK.2 2 _ rfl).2
  subst e_15
  have e_16 : nc4 = nc23 := ra_eq (ty := .int) (by decide) (hK.2 16 _ rfl).2 (hK.2 2 _ rfl).2
  subst e_16
  have e_17 : nc2 = mc1 := ra_eq (ty := .long) (by decide) (hK.2 17 _ rfl).2 (hK.2 0 _ rfl).2
  subst e_17
  have e_18 : nc2 = mc2 := ra_eq (ty := .long) (by decide) (hK.2 18 _ rfl).2 (hK.2 0 _ rfl).2
  subst e_18
  have e_19 : nc4 = mc3 := ra_eq (ty := .int) (by decide) (hK.2 19 _ rfl).2 (hK.2 2 _ rfl).2
  subst e_19
  have e_20 : nc5 = mc4 := ra_eq (ty := .boolean) (by decide) (hK.2 20 _ rfl).2 (hK.2 3 _ rfl).2
  subst e_20
  have e_21 : nc4 = mc5 := ra_eq (ty := .int) (by decide) (hK.2 21 _ rfl).2 (hK.2 2 _ rfl).2
  subst e_21
  have e_22 : nc2 = mc6 := ra_eq (ty := .long) (by decide) (hK.2 22 _ rfl).2 (hK.2 0 _ rfl).2
  subst e_22
  have e_23 : nc2 = mc7 := ra_eq (ty := .long) (by decide) (hK.2 23 _ rfl).2 (hK.2 0 _ rfl).2
  subst e_23
  have e_24 : nc2 = mc8 := ra_eq (ty := .long) (by decide) (hK.2 24 _ rfl).2 (hK.2 0 _ rfl).2
  subst e_24
  have e_25 : nc5 = mc9 := ra_eq (ty := .boolean) (by decide) (hK.2 25 _ rfl).2 (hK.2 3 _ rfl).2
  subst e_25
  have e_26 : nc5 = mc10 := ra_eq (ty := .boolean) (by decide) (hK.2 26 _ rfl).2 (hK.2 3 _ rfl).2
  subst e_26
  have e_27 : nc4 = mc11 := ra_eq (ty := .int) (by decide) (hK.2 27 _ rfl).2 (hK.2 2 _ rfl).2
  subst e_27
  have e_28 : nc4 = mc12 := ra_eq (ty := .int) (by decide) (hK.2 28 _ rfl).2 (hK.2 2 _ rfl).2
  subst e_28
  have e_29 : nc4 = mc13 := ra_eq (ty := .int) (by decide) (hK.2 29 _ rfl).2 (hK.2 2 _ rfl).2
  subst e_29
  have e_30 : nc4 = mc14 := ra_eq (ty := .int) (by decide) (hK.2 30 _ rfl).2 (hK.2 2 _ rfl).2
  subst e_30
  have e_31 : nc4 = mc15 := ra_eq (ty := .int) (by decide) (hK.2 31 _ rfl).2 (hK.2 2 _ rfl).2
  subst e_31
  have e_32 : nc4 = mc16 := ra_eq (ty := .int) (by decide) (hK.2 32 _ rfl).2 (hK.2 2 _ rfl).2
  subst e_32
  have e_33 : nc2 = oc := ra_eq (ty := .long) (by decide) (hK.2 33 _ rfl).2 (hK.2 0 _ rfl).2
  subst e_33
  let ρ : Nat → Nat := fun k => if k = 99 then b else [n0, nq1, nq2, nq3, nq4, nq5, nq6, nq7, nq8, nq9, nq10, nq11, nq12, nq13, nq14, nq15, nq16, nq17, nq18, nq19, nq20, nq21, nq22, nq23, m0, mq1, mq2, mq3, mq4, mq5, mq6, mq7, mq8, mq9, mq10, mq11, mq12, mq13, mq14, mq15, mq16, o0].getD k 0
  let cA : Nat → ClassId := fun k => match k with | 0 => nc4 | 1 => nc2 | _ => nc5
  have hK3 : va_K (dC, dI) xCl (xty cA) s := hK.sub [2, 0, 3] rfl
  have hP3 : va_P (dC, dI) xCl (xw ρ cA 0 (HX (fun _ => 0) (fun _ _ => 0) (fun _ _ => 0))) H := hP
  have hD3 : va_D A (xw ρ cA 0 (HX (fun _ => 0) (fun _ _ => 0) (fun _ _ => 0))) := hD
  have hl3 : lv_has ls 8 (xla ρ 0 (xloc 0 none none none)) := lv_subset hl (by
    intro q hq
    have e : xla ρ 0 (xloc 0 none none none) = [(0, .ref b), (1, .ref n0), (2, .ref m0), (3, .ref o0), (4, .int 0)] := rfl
    rw [e] at hq
    simp only [List.mem_cons, List.not_mem_nil, or_false] at hq ⊢
    rcases hq with h | h | h | h | h <;> simp [h])
  have hXl : xEl b L xs c s ρ A := ⟨hex, rfl, fun z => Nat.not_le.mpr hbl (hAd b z), hbl, hXs⟩
  have hXc : xCx (xEl b L xs) xCl "NameMoverLaw" xtt code 8 ret p l s m #[Value.ref b] meth c (dC, dI) cA ρ A := ⟨hx, hb, hml, hr, hlocks, hown, fun w hw => hts _ (xtt_l hw), hK3, hA, hXl, hlo, fun q hq cell hc => absurd (Array.getElem?_eq_some_iff.mp hc).1 (Nat.not_lt.mpr (hAd q hq)), hHs⟩
  have hfin := xSd.all (l := l) (e := e) (below := below) (ρ := ρ) v_law hXc (law_pure L xs hL) H _ ls hl3 hP3 hD3 hS
  refine W.mono hfin (fun t ht => ?_)
  obtain ⟨o, h1, h2, r, h, n, ⟨rfl, hn⟩, h4, -, -, -, h5, LL, h6, h7⟩ := ht
  refine ⟨o, h1, h2, h4, ⟨_, h4⟩, h5, h6.weaken (fun y hy hlt => absurd (hAd _ (h7 y hy)) (Nat.not_le.mpr hlt)) (by show 42 + n ≤ 1082; omega) (by show 3852 + 6 * n ≤ 12140; omega)⟩
