def hs_L_declare : Nat → Option Int32 := fun Z => match Z with
  | 0 => some 1
  | 1 => some 2
  | 2 => some 3
  | 3 => none
  | _ => none
def tb_L_declare : xT := [(0, o_aload 5 2), (2, o_i 0 1), (3, o_aload 0 1), (4, o_lload 1 1), (5, o_iload 3 1), (6, o_iload 4 2), (8, o_callH (xRun tb_N_declare 5) 0 3 1 1 hs_L_declare), (11, o_i2l), (12, o_lastore), (13, o_goto 28), (28, o_i 0 1), (29, o_iret)]
abbrev y_L_declare : MethodName := ⟨"NameMoverLaw", "declare", "(LNameMover;JIZ[J)I"⟩
abbrev rm_L_declare : Room := { frames := 7, cells := 1, slots := 6, locals := 130 }
abbrev ws_L_declare : List Cond := Cond.codeWith y_L_declare method_3_code 7 (some .int) [(0, 13, 16, 13), (0, 13, 20, 15), (0, 13, 24, 17)] :: xtt
set_option maxRecDepth 100000 in
theorem hh_L_declare : ∀ Z v, hs_L_declare Z = some v → xHand "NameMoverLaw" ws_L_declare method_3_code 7 8 [(0, 13, 16, 13), (0, 13, 20, 15), (0, 13, 24, 17)] Z v := fun Z v h => by
  match Z, h with
  | 0, h => cases h; exact ⟨[], (0, 13, 16, 13), [(0, 13, 20, 15), (0, 13, 24, 17)], rfl, ⟨by decide, by decide⟩, by decide, tc tw_260, tc tw_281, (fun _ q => absurd q List.not_mem_nil), 1, by decide, Or.inl ⟨6, by decide, (by decide +kernel), (by decide +kernel), (by decide +kernel)⟩⟩
  | 1, h => cases h; exact ⟨[(0, 13, 16, 13)], (0, 13, 20, 15), [(0, 13, 24, 17)], rfl, ⟨by decide, by decide⟩, by decide, tc tw_261, tc tw_351, (List.forall_mem_cons.mpr ⟨⟨⟨by decide, by decide⟩, by decide, 0, tc tw_260, List.mem_of_getElem? (i := 3) rfl⟩, (fun _ q => absurd q List.not_mem_nil)⟩), 2, by decide, Or.inl ⟨6, by decide, (by decide +kernel), (by decide +kernel), (by decide +kernel)⟩⟩
  | 2, h => cases h; exact ⟨[(0, 13, 16, 13), (0, 13, 20, 15)], (0, 13, 24, 17), [], rfl, ⟨by decide, by decide⟩, by decide, tc tw_262, tc tw_380, (List.forall_mem_cons.mpr ⟨⟨⟨by decide, by decide⟩, by decide, 0, tc tw_260, List.mem_of_getElem? (i := 6) rfl⟩, (List.forall_mem_cons.mpr ⟨⟨⟨by decide, by decide⟩, by decide, 1, tc tw_261, List.mem_of_getElem? (i := 7) rfl⟩, (fun _ q => absurd q List.not_mem_nil)⟩)⟩), 3, by decide, Or.inl ⟨6, by decide, (by decide +kernel), (by decide +kernel), (by decide +kernel)⟩⟩
  | 3, h => cases h
  | (_ + 4), h => cases h
set_option maxRecDepth 100000 in
theorem v_L_declare : ∀ q ∈ tb_L_declare, xSd (0, 0) (xEh [(0, 13, 16, 13), (0, 13, 20, 15), (0, 13, 24, 17)]) xCl "NameMoverLaw" ws_L_declare method_3_code 7 (some .int) rm_L_declare q :=
  xval (s_aload (by decide +kernel)) (
  xval (s_iconst (z := 0) (by decide +kernel) (by decide)) (
  xval (s_aload_n (f := 0) (by decide +kernel) rfl) (
  xval (s_lload_n (f := 1) (by decide +kernel) rfl) (
  xval (s_iload_n (f := 3) (by decide +kernel) rfl) (
  xval (s_iload (by decide +kernel)) (
  xval (s_callH (i := 7) c_N_declare (by decide +kernel) rfl (xtt_good tw_266) rfl (tc tw_263) (tc tw_264) (tc tw_265) (tc tw_1) ⟨by decide, by decide, by decide +kernel⟩ ⟨by decide, by decide, rfl, rfl, by decide, by decide⟩ hh_L_declare) (
  xval (s_i2l (by decide +kernel)) (
  xval (s_lastore (by decide +kernel)) (
  xval (s_goto (z := 15) (by decide +kernel) (by decide)) (
  xval (s_iconst (z := 0) (by decide +kernel) (by decide)) (
  xval (s_iret (by decide +kernel)) (
  xval_nil))))))))))))
theorem c_L_declare : xMet xCl y_L_declare ws_L_declare rm_L_declare (xRun tb_L_declare 7) := xMet.ofW (by decide) rfl v_L_declare
def hs_L_member : Nat → Option Int32 := fun Z => match Z with
  | 0 => some 2
  | 1 => some 1
  | 2 => some 3
  | 3 => none
  | _ => none
def tb_L_member : xT := [(0, o_aload 7 2), (2, o_i 0 1), (3, o_aload 0 1), (4, o_iload 1 1), (5, o_lload 2 1), (6, o_lload 4 2), (8, o_iload 6 2), (10, o_callH (xRun tb_N_member 7) 0 4 1 1 hs_L_member), (13, o_i2l), (14, o_lastore), (15, o_goto 30), (30, o_i 0 1), (31, o_iret)]
abbrev y_L_member : MethodName := ⟨"NameMoverLaw", "member", "(LNameMover;IJJZ[J)I"⟩
abbrev rm_L_member : Room := { frames := 8, cells := 1, slots := 6, locals := 132 }
abbrev ws_L_member : List Cond := Cond.codeWith y_L_member method_4_code 9 (some .int) [(0, 15, 18, 15), (0, 15, 22, 13), (0, 15, 26, 17)] :: xtt
set_option maxRecDepth 100000 in
theorem hh_L_member : ∀ Z v, hs_L_member Z = some v → xHand "NameMoverLaw" ws_L_member method_4_code 9 10 [(0, 15, 18, 15), (0, 15, 22, 13), (0, 15, 26, 17)] Z v := fun Z v h => by
  match Z, h with
  | 0, h => cases h; exact ⟨[(0, 15, 18, 15)], (0, 15, 22, 13), [(0, 15, 26, 17)], rfl, ⟨by decide, by decide⟩, by decide, tc tw_260, tc tw_281, (List.forall_mem_cons.mpr ⟨⟨⟨by decide, by decide⟩, by decide, 1, tc tw_261, List.mem_of_getElem? (i := 0) rfl⟩, (fun _ q => absurd q List.not_mem_nil)⟩), 2, by decide, Or.inl ⟨8, by decide, (by decide +kernel), (by decide +kernel), (by decide +kernel)⟩⟩
  | 1, h => cases h; exact ⟨[], (0, 15, 18, 15), [(0, 15, 22, 13), (0, 15, 26, 17)], rfl, ⟨by decide, by decide⟩, by decide, tc tw_261, tc tw_351, (fun _ q => absurd q List.not_mem_nil), 1, by decide, Or.inl ⟨8, by decide, (by decide +kernel), (by decide +kernel), (by decide +kernel)⟩⟩
  | 2, h => cases h; exact ⟨[(0, 15, 18, 15), (0, 15, 22, 13)], (0, 15, 26, 17), [], rfl, ⟨by decide, by decide⟩, by decide, tc tw_262, tc tw_380, (List.forall_mem_cons.mpr ⟨⟨⟨by decide, by decide⟩, by decide, 1, tc tw_261, List.mem_of_getElem? (i := 7) rfl⟩, (List.forall_mem_cons.mpr ⟨⟨⟨by decide, by decide⟩, by decide, 0, tc tw_260, List.mem_of_getElem? (i := 6) rfl⟩, (fun _ q => absurd q List.not_mem_nil)⟩)⟩), 3, by decide, Or.inl ⟨8, by decide, (by decide +kernel), (by decide +kernel), (by decide +kernel)⟩⟩
  | 3, h => cases h
  | (_ + 4), h => cases h
set_option maxRecDepth 100000 in
theorem v_L_member : ∀ q ∈ tb_L_member, xSd (0, 0) (xEh [(0, 15, 18, 15), (0, 15, 22, 13), (0, 15, 26, 17)]) xCl "NameMoverLaw" ws_L_member method_4_code 9 (some .int) rm_L_member q :=
  xval (s_aload (by decide +kernel)) (
  xval (s_iconst (z := 0) (by decide +kernel) (by decide)) (
  xval (s_aload_n (f := 0) (by decide +kernel) rfl) (
  xval (s_iload_n (f := 1) (by decide +kernel) rfl) (
  xval (s_lload_n (f := 2) (by decide +kernel) rfl) (
  xval (s_lload (by decide +kernel)) (
  xval (s_iload (by decide +kernel)) (
  xval (s_callH (i := 19) c_N_member (by decide +kernel) rfl (xtt_good tw_408) rfl (tc tw_405) (tc tw_406) (tc tw_407) (tc tw_1) ⟨by decide, by decide, by decide +kernel⟩ ⟨by decide, by decide, rfl, rfl, by decide, by decide⟩ hh_L_member) (
  xval (s_i2l (by decide +kernel)) (
  xval (s_lastore (by decide +kernel)) (
  xval (s_goto (z := 15) (by decide +kernel) (by decide)) (
  xval (s_iconst (z := 0) (by decide +kernel) (by decide)) (
  xval (s_iret (by decide +kernel)) (
  xval_nil)))))))))))))
theorem c_L_member : xMet xCl y_L_member ws_L_member rm_L_member (xRun tb_L_member 9) := xMet.ofW (by decide) rfl v_L_member
def hs_L_moveClass : Nat → Option Int32 := fun Z => match Z with
  | 0 => some 2
  | 1 => some 1
  | 2 => none
  | 3 => none
  | _ => none
def tb_L_moveClass : xT := [(0, o_aload 0 1), (1, o_iload 1 1), (2, o_lload 2 1), (3, o_callH (xRun tb_N_moveClass 4) 0 2 1 1 hs_L_moveClass), (6, o_goto 17), (17, o_i 0 1), (18, o_iret)]
abbrev y_L_moveClass : MethodName := ⟨"NameMoverLaw", "moveClass", "(LNameMover;IJ)I"⟩
abbrev rm_L_moveClass : Room := { frames := 8, cells := 1, slots := 6, locals := 126 }
abbrev ws_L_moveClass : List Cond := Cond.codeWith y_L_moveClass method_5_code 5 (some .int) [(0, 6, 9, 15), (0, 6, 13, 13)] :: xtt
set_option maxRecDepth 100000 in
theorem hh_L_moveClass : ∀ Z v, hs_L_moveClass Z = some v → xHand "NameMoverLaw" ws_L_moveClass method_5_code 5 3 [(0, 6, 9, 15), (0, 6, 13, 13)] Z v := fun Z v h => by
  match Z, h with
  | 0, h => cases h; exact ⟨[(0, 6, 9, 15)], (0, 6, 13, 13), [], rfl, ⟨by decide, by decide⟩, by decide, tc tw_260, tc tw_281, (List.forall_mem_cons.mpr ⟨⟨⟨by decide, by decide⟩, by decide, 1, tc tw_261, List.mem_of_getElem? (i := 0) rfl⟩, (fun _ q => absurd q List.not_mem_nil)⟩), 2, by decide, Or.inl ⟨4, by decide, (by decide +kernel), (by decide +kernel), (by decide +kernel)⟩⟩
  | 1, h => cases h; exact ⟨[], (0, 6, 9, 15), [(0, 6, 13, 13)], rfl, ⟨by decide, by decide⟩, by decide, tc tw_261, tc tw_351, (fun _ q => absurd q List.not_mem_nil), 1, by decide, Or.inl ⟨4, by decide, (by decide +kernel), (by decide +kernel), (by decide +kernel)⟩⟩
  | 2, h => cases h
  | 3, h => cases h
  | (_ + 4), h => cases h
set_option maxRecDepth 100000 in
theorem v_L_moveClass : ∀ q ∈ tb_L_moveClass, xSd (0, 0) (xEh [(0, 6, 9, 15), (0, 6, 13, 13)]) xCl "NameMoverLaw" ws_L_moveClass method_5_code 5 (some .int) rm_L_moveClass q :=
  xval (s_aload_n (f := 0) (by decide +kernel) rfl) (
  xval (s_iload_n (f := 1) (by decide +kernel) rfl) (
  xval (s_lload_n (f := 2) (by decide +kernel) rfl) (
  xval (s_callH (i := 23) c_N_moveClass (by decide +kernel) rfl (xtt_good tw_458) rfl (tc tw_455) (tc tw_456) (tc tw_457) (tc tw_1) ⟨by decide, by decide, by decide +kernel⟩ ⟨by decide, by decide, rfl, rfl, by decide, by decide⟩ hh_L_moveClass) (
  xval (s_goto (z := 11) (by decide +kernel) (by decide)) (
  xval (s_iconst (z := 0) (by decide +kernel) (by decide)) (
  xval (s_iret (by decide +kernel)) (
  xval_nil)))))))
theorem c_L_moveClass : xMet xCl y_L_moveClass ws_L_moveClass rm_L_moveClass (xRun tb_L_moveClass 5) := xMet.ofW (by decide) rfl v_L_moveClass
def hs_L_movePackage : Nat → Option Int32 := fun Z => match Z with
  | 0 => some 1
  | 1 => none
  | 2 => none
  | 3 => none
  | _ => none
def tb_L_movePackage : xT := [(0, o_aload 5 2), (2, o_i 0 1), (3, o_aload 0 1), (4, o_lload 1 1), (5, o_lload 3 1), (6, o_callH (xRun tb_N_movePackage 5) 0 2 1 1 hs_L_movePackage), (9, o_i2l), (10, o_lastore), (11, o_goto 18), (18, o_i 0 1), (19, o_iret)]
abbrev y_L_movePackage : MethodName := ⟨"NameMoverLaw", "movePackage", "(LNameMover;JJ[J)I"⟩
abbrev rm_L_movePackage : Room := { frames := 7, cells := 1, slots := 6, locals := 142 }
abbrev ws_L_movePackage : List Cond := Cond.codeWith y_L_movePackage method_6_code 7 (some .int) [(0, 11, 14, 13)] :: xtt
set_option maxRecDepth 100000 in
theorem hh_L_movePackage : ∀ Z v, hs_L_movePackage Z = some v → xHand "NameMoverLaw" ws_L_movePackage method_6_code 7 6 [(0, 11, 14, 13)] Z v := fun Z v h => by
  match Z, h with
  | 0, h => cases h; exact ⟨[], (0, 11, 14, 13), [], rfl, ⟨by decide, by decide⟩, by decide, tc tw_260, tc tw_281, (fun _ q => absurd q List.not_mem_nil), 1, by decide, Or.inl ⟨6, by decide, (by decide +kernel), (by decide +kernel), (by decide +kernel)⟩⟩
  | 1, h => cases h
  | 2, h => cases h
  | 3, h => cases h
  | (_ + 4), h => cases h
set_option maxRecDepth 100000 in
theorem v_L_movePackage : ∀ q ∈ tb_L_movePackage, xSd (0, 0) (xEh [(0, 11, 14, 13)]) xCl "NameMoverLaw" ws_L_movePackage method_6_code 7 (some .int) rm_L_movePackage q :=
  xval (s_aload (by decide +kernel)) (
  xval (s_iconst (z := 0) (by decide +kernel) (by decide)) (
  xval (s_aload_n (f := 0) (by decide +kernel) rfl) (
  xval (s_lload_n (f := 1) (by decide +kernel) rfl) (
  xval (s_lload_n (f := 3) (by decide +kernel) rfl) (
  xval (s_callH (i := 27) c_N_movePackage (by decide +kernel) rfl (xtt_good tw_465) rfl (tc tw_462) (tc tw_463) (tc tw_464) (tc tw_1) ⟨by decide, by decide, by decide +kernel⟩ ⟨by decide, by decide, rfl, rfl, by decide, by decide⟩ hh_L_movePackage) (
  xval (s_i2l (by decide +kernel)) (
  xval (s_lastore (by decide +kernel)) (
  xval (s_goto (z := 7) (by decide +kernel) (by decide)) (
  xval (s_iconst (z := 0) (by decide +kernel) (by decide)) (
  xval (s_iret (by decide +kernel)) (
  xval_nil)))))))))))
theorem c_L_movePackage : xMet xCl y_L_movePackage ws_L_movePackage rm_L_movePackage (xRun tb_L_movePackage 7) := xMet.ofW (by decide) rfl v_L_movePackage
def hs_L_moveMember : Nat → Option Int32 := fun Z => match Z with
  | 0 => some 2
  | 1 => some 1
  | 2 => none
  | 3 => none
  | _ => none
def tb_L_moveMember : xT := [(0, o_aload 5 2), (2, o_i 0 1), (3, o_aload 0 1), (4, o_iload 1 1), (5, o_iload 2 1), (6, o_lload 3 1), (7, o_callH (xRun tb_N_moveMember 5) 0 3 1 1 hs_L_moveMember), (10, o_i2l), (11, o_lastore), (12, o_goto 23), (23, o_i 0 1), (24, o_iret)]
abbrev y_L_moveMember : MethodName := ⟨"NameMoverLaw", "moveMember", "(LNameMover;IIJ[J)I"⟩
abbrev rm_L_moveMember : Room := { frames := 8, cells := 1, slots := 6, locals := 159 }
abbrev ws_L_moveMember : List Cond := Cond.codeWith y_L_moveMember method_7_code 7 (some .int) [(0, 12, 15, 15), (0, 12, 19, 13)] :: xtt
set_option maxRecDepth 100000 in
theorem hh_L_moveMember : ∀ Z v, hs_L_moveMember Z = some v → xHand "NameMoverLaw" ws_L_moveMember method_7_code 7 7 [(0, 12, 15, 15), (0, 12, 19, 13)] Z v := fun Z v h => by
  match Z, h with
  | 0, h => cases h; exact ⟨[(0, 12, 15, 15)], (0, 12, 19, 13), [], rfl, ⟨by decide, by decide⟩, by decide, tc tw_260, tc tw_281, (List.forall_mem_cons.mpr ⟨⟨⟨by decide, by decide⟩, by decide, 1, tc tw_261, List.mem_of_getElem? (i := 0) rfl⟩, (fun _ q => absurd q List.not_mem_nil)⟩), 2, by decide, Or.inl ⟨6, by decide, (by decide +kernel), (by decide +kernel), (by decide +kernel)⟩⟩
  | 1, h => cases h; exact ⟨[], (0, 12, 15, 15), [(0, 12, 19, 13)], rfl, ⟨by decide, by decide⟩, by decide, tc tw_261, tc tw_351, (fun _ q => absurd q List.not_mem_nil), 1, by decide, Or.inl ⟨6, by decide, (by decide +kernel), (by decide +kernel), (by decide +kernel)⟩⟩
  | 2, h => cases h
  | 3, h => cases h
  | (_ + 4), h => cases h
set_option maxRecDepth 100000 in
theorem v_L_moveMember : ∀ q ∈ tb_L_moveMember, xSd (0, 0) (xEh [(0, 12, 15, 15), (0, 12, 19, 13)]) xCl "NameMoverLaw" ws_L_moveMember method_7_code 7 (some .int) rm_L_moveMember q :=
  xval (s_aload (by decide +kernel)) (
  xval (s_iconst (z := 0) (by decide +kernel) (by decide)) (
  xval (s_aload_n (f := 0) (by decide +kernel) rfl) (
  xval (s_iload_n (f := 1) (by decide +kernel) rfl) (
  xval (s_iload_n (f := 2) (by decide +kernel) rfl) (
  xval (s_lload_n (f := 3) (by decide +kernel) rfl) (
  xval (s_callH (i := 31) c_N_moveMember (by decide +kernel) rfl (xtt_good tw_498) rfl (tc tw_495) (tc tw_496) (tc tw_497) (tc tw_1) ⟨by decide, by decide, by decide +kernel⟩ ⟨by decide, by decide, rfl, rfl, by decide, by decide⟩ hh_L_moveMember) (
  xval (s_i2l (by decide +kernel)) (
  xval (s_lastore (by decide +kernel)) (
  xval (s_goto (z := 11) (by decide +kernel) (by decide)) (
  xval (s_iconst (z := 0) (by decide +kernel) (by decide)) (
  xval (s_iret (by decide +kernel)) (
  xval_nil))))))))))))
theorem c_L_moveMember : xMet xCl y_L_moveMember ws_L_moveMember rm_L_moveMember (xRun tb_L_moveMember 7) := xMet.ofW (by decide) rfl v_L_moveMember
def hs_L_apply : Nat → Option Int32 := fun Z => match Z with
  | 0 => none
  | 1 => none
  | 2 => some 1
  | 3 => none
  | _ => none
def tb_L_apply : xT := [(0, o_aload 1 1), (1, o_i 0 1), (2, o_aload 0 1), (3, o_callH (xRun tb_N_apply 2) 0 0 1 1 hs_L_apply), (6, o_i2l), (7, o_lastore), (8, o_goto 14), (14, o_i 0 1), (15, o_iret)]
abbrev y_L_apply : MethodName := ⟨"NameMoverLaw", "apply", "(LNameMover;[J)I"⟩
abbrev rm_L_apply : Room := { frames := 7, cells := 1, slots := 6, locals := 153 }
abbrev ws_L_apply : List Cond := Cond.codeWith y_L_apply method_8_code 3 (some .int) [(0, 8, 11, 17)] :: xtt
set_option maxRecDepth 100000 in
theorem hh_L_apply : ∀ Z v, hs_L_apply Z = some v → xHand "NameMoverLaw" ws_L_apply method_8_code 3 3 [(0, 8, 11, 17)] Z v := fun Z v h => by
  match Z, h with
  | 0, h => cases h
  | 1, h => cases h
  | 2, h => cases h; exact ⟨[], (0, 8, 11, 17), [], rfl, ⟨by decide, by decide⟩, by decide, tc tw_262, tc tw_380, (fun _ q => absurd q List.not_mem_nil), 1, by decide, Or.inr ⟨2, by decide, (by decide +kernel), (by decide +kernel), (by decide +kernel)⟩⟩
  | 3, h => cases h
  | (_ + 4), h => cases h
set_option maxRecDepth 100000 in
theorem v_L_apply : ∀ q ∈ tb_L_apply, xSd (0, 0) (xEh [(0, 8, 11, 17)]) xCl "NameMoverLaw" ws_L_apply method_8_code 3 (some .int) rm_L_apply q :=
  xval (s_aload_n (f := 1) (by decide +kernel) rfl) (
  xval (s_iconst (z := 0) (by decide +kernel) (by decide)) (
  xval (s_aload_n (f := 0) (by decide +kernel) rfl) (
  xval (s_callH (i := 35) c_N_apply (by decide +kernel) rfl (xtt_good tw_531) rfl (tc tw_528) (tc tw_529) (tc tw_530) (tc tw_1) ⟨by decide, by decide, by decide +kernel⟩ ⟨by decide, by decide, rfl, rfl, by decide, by decide⟩ hh_L_apply) (
  xval (s_i2l (by decide +kernel)) (
  xval (s_lastore (by decide +kernel)) (
  xval (s_goto (z := 6) (by decide +kernel) (by decide)) (
  xval (s_iconst (z := 0) (by decide +kernel) (by decide)) (
  xval (s_iret (by decide +kernel)) (
  xval_nil)))))))))
theorem c_L_apply : xMet xCl y_L_apply ws_L_apply rm_L_apply (xRun tb_L_apply 3) := xMet.ofW (by decide) rfl v_L_apply
def hs_L_className : Nat → Option Int32 := fun Z => match Z with
  | 0 => none
  | 1 => some 1
  | 2 => none
  | 3 => none
  | _ => none
def tb_L_className : xT := [(0, o_aload 3 1), (1, o_i 0 1), (2, o_aload 0 1), (3, o_iload 1 1), (4, o_iload 2 1), (5, o_callH (xRun tb_N_className 3) 0 2 1 1 hs_L_className), (8, o_lastore), (9, o_goto 16), (16, o_i 0 1), (17, o_iret)]
abbrev y_L_className : MethodName := ⟨"NameMoverLaw", "className", "(LNameMover;IZ[J)I"⟩
abbrev rm_L_className : Room := { frames := 8, cells := 1, slots := 6, locals := 125 }
abbrev ws_L_className : List Cond := Cond.codeWith y_L_className method_9_code 5 (some .int) [(0, 9, 12, 15)] :: xtt
set_option maxRecDepth 100000 in
theorem hh_L_className : ∀ Z v, hs_L_className Z = some v → xHand "NameMoverLaw" ws_L_className method_9_code 5 5 [(0, 9, 12, 15)] Z v := fun Z v h => by
  match Z, h with
  | 0, h => cases h
  | 1, h => cases h; exact ⟨[], (0, 9, 12, 15), [], rfl, ⟨by decide, by decide⟩, by decide, tc tw_261, tc tw_351, (fun _ q => absurd q List.not_mem_nil), 1, by decide, Or.inl ⟨4, by decide, (by decide +kernel), (by decide +kernel), (by decide +kernel)⟩⟩
  | 2, h => cases h
  | 3, h => cases h
  | (_ + 4), h => cases h
set_option maxRecDepth 100000 in
theorem v_L_className : ∀ q ∈ tb_L_className, xSd (0, 0) (xEh [(0, 9, 12, 15)]) xCl "NameMoverLaw" ws_L_className method_9_code 5 (some .int) rm_L_className q :=
  xval (s_aload_n (f := 3) (by decide +kernel) rfl) (
  xval (s_iconst (z := 0) (by decide +kernel) (by decide)) (
  xval (s_aload_n (f := 0) (by decide +kernel) rfl) (
  xval (s_iload_n (f := 1) (by decide +kernel) rfl) (
  xval (s_iload_n (f := 2) (by decide +kernel) rfl) (
  xval (s_callH (i := 39) c_N_className (by decide +kernel) rfl (xtt_good tw_543) rfl (tc tw_540) (tc tw_541) (tc tw_542) (tc tw_1) ⟨by decide, by decide, by decide +kernel⟩ ⟨by decide, by decide, rfl, rfl, by decide, by decide⟩ hh_L_className) (
  xval (s_lastore (by decide +kernel)) (
  xval (s_goto (z := 7) (by decide +kernel) (by decide)) (
  xval (s_iconst (z := 0) (by decide +kernel) (by decide)) (
  xval (s_iret (by decide +kernel)) (
  xval_nil))))))))))
theorem c_L_className : xMet xCl y_L_className ws_L_className rm_L_className (xRun tb_L_className 5) := xMet.ofW (by decide) rfl v_L_className
def hs_L_memberName : Nat → Option Int32 := fun Z => match Z with
  | 0 => none
  | 1 => some 1
  | 2 => none
  | 3 => none
  | _ => none
def tb_L_memberName : xT := [(0, o_aload 4 2), (2, o_i 0 1), (3, o_aload 0 1), (4, o_iload 1 1), (5, o_iload 2 1), (6, o_iload 3 1), (7, o_callH (xRun tb_N_memberName 5) 0 3 1 1 hs_L_memberName), (10, o_lastore), (11, o_goto 18), (18, o_i 0 1), (19, o_iret)]
abbrev y_L_memberName : MethodName := ⟨"NameMoverLaw", "memberName", "(LNameMover;IIZ[J)I"⟩
abbrev rm_L_memberName : Room := { frames := 8, cells := 1, slots := 6, locals := 128 }
abbrev ws_L_memberName : List Cond := Cond.codeWith y_L_memberName method_10_code 6 (some .int) [(0, 11, 14, 15)] :: xtt
set_option maxRecDepth 100000 in
theorem hh_L_memberName : ∀ Z v, hs_L_memberName Z = some v → xHand "NameMoverLaw" ws_L_memberName method_10_code 6 7 [(0, 11, 14, 15)] Z v := fun Z v h => by
  match Z, h with
  | 0, h => cases h
  | 1, h => cases h; exact ⟨[], (0, 11, 14, 15), [], rfl, ⟨by decide, by decide⟩, by decide, tc tw_261, tc tw_351, (fun _ q => absurd q List.not_mem_nil), 1, by decide, Or.inl ⟨5, by decide, (by decide +kernel), (by decide +kernel), (by decide +kernel)⟩⟩
  | 2, h => cases h
  | 3, h => cases h
  | (_ + 4), h => cases h
set_option maxRecDepth 100000 in
theorem v_L_memberName : ∀ q ∈ tb_L_memberName, xSd (0, 0) (xEh [(0, 11, 14, 15)]) xCl "NameMoverLaw" ws_L_memberName method_10_code 6 (some .int) rm_L_memberName q :=
  xval (s_aload (by decide +kernel)) (
  xval (s_iconst (z := 0) (by decide +kernel) (by decide)) (
  xval (s_aload_n (f := 0) (by decide +kernel) rfl) (
  xval (s_iload_n (f := 1) (by decide +kernel) rfl) (
  xval (s_iload_n (f := 2) (by decide +kernel) rfl) (
  xval (s_iload_n (f := 3) (by decide +kernel) rfl) (
  xval (s_callH (i := 43) c_N_memberName (by decide +kernel) rfl (xtt_good tw_550) rfl (tc tw_547) (tc tw_548) (tc tw_549) (tc tw_1) ⟨by decide, by decide, by decide +kernel⟩ ⟨by decide, by decide, rfl, rfl, by decide, by decide⟩ hh_L_memberName) (
  xval (s_lastore (by decide +kernel)) (
  xval (s_goto (z := 7) (by decide +kernel) (by decide)) (
  xval (s_iconst (z := 0) (by decide +kernel) (by decide)) (
  xval (s_iret (by decide +kernel)) (
  xval_nil)))))))))))
theorem c_L_memberName : xMet xCl y_L_memberName ws_L_memberName rm_L_memberName (xRun tb_L_memberName 6) := xMet.ofW (by decide) rfl v_L_memberName
def hs_L_find : Nat → Option Int32 := fun Z => match Z with
  | 0 => none
  | 1 => some 1
  | 2 => none
  | 3 => some 2
  | _ => none
def tb_L_find : xT := [(0, o_aload 6 2), (2, o_i 0 1), (3, o_aload 0 1), (4, o_iload 1 1), (5, o_lload 2 1), (6, o_lload 4 2), (8, o_callH (xRun tb_N_find 7) 0 3 1 1 hs_L_find), (11, o_i2l), (12, o_lastore), (13, o_goto 24), (24, o_i 0 1), (25, o_iret)]
abbrev y_L_find : MethodName := ⟨"NameMoverLaw", "find", "(LNameMover;IJJ[J)I"⟩
abbrev rm_L_find : Room := { frames := 8, cells := 1, slots := 6, locals := 129 }
abbrev ws_L_find : List Cond := Cond.codeWith y_L_find method_11_code 8 (some .int) [(0, 13, 16, 15), (0, 13, 20, 51)] :: xtt
set_option maxRecDepth 100000 in
theorem hh_L_find : ∀ Z v, hs_L_find Z = some v → xHand "NameMoverLaw" ws_L_find method_11_code 8 8 [(0, 13, 16, 15), (0, 13, 20, 51)] Z v := fun Z v h => by
  match Z, h with
  | 0, h => cases h
  | 1, h => cases h; exact ⟨[], (0, 13, 16, 15), [(0, 13, 20, 51)], rfl, ⟨by decide, by decide⟩, by decide, tc tw_261, tc tw_351, (fun _ q => absurd q List.not_mem_nil), 1, by decide, Or.inl ⟨7, by decide, (by decide +kernel), (by decide +kernel), (by decide +kernel)⟩⟩
  | 2, h => cases h
  | 3, h => cases h; exact ⟨[(0, 13, 16, 15)], (0, 13, 20, 51), [], rfl, ⟨by decide, by decide⟩, by decide, tc tw_554, tc tw_565, (List.forall_mem_cons.mpr ⟨⟨⟨by decide, by decide⟩, by decide, 1, tc tw_261, List.mem_of_getElem? (i := 10) rfl⟩, (fun _ q => absurd q List.not_mem_nil)⟩), 2, by decide, Or.inl ⟨7, by decide, (by decide +kernel), (by decide +kernel), (by decide +kernel)⟩⟩
  | (_ + 4), h => cases h
set_option maxRecDepth 100000 in
theorem v_L_find : ∀ q ∈ tb_L_find, xSd (0, 0) (xEh [(0, 13, 16, 15), (0, 13, 20, 51)]) xCl "NameMoverLaw" ws_L_find method_11_code 8 (some .int) rm_L_find q :=
  xval (s_aload (by decide +kernel)) (
  xval (s_iconst (z := 0) (by decide +kernel) (by decide)) (
  xval (s_aload_n (f := 0) (by decide +kernel) rfl) (
  xval (s_iload_n (f := 1) (by decide +kernel) rfl) (
  xval (s_lload_n (f := 2) (by decide +kernel) rfl) (
  xval (s_lload (by decide +kernel)) (
  xval (s_callH (i := 47) c_N_find (by decide +kernel) rfl (xtt_good tw_558) rfl (tc tw_555) (tc tw_556) (tc tw_557) (tc tw_1) ⟨by decide, by decide, by decide +kernel⟩ ⟨by decide, by decide, rfl, rfl, by decide, by decide⟩ hh_L_find) (
  xval (s_i2l (by decide +kernel)) (
  xval (s_lastore (by decide +kernel)) (
  xval (s_goto (z := 11) (by decide +kernel) (by decide)) (
  xval (s_iconst (z := 0) (by decide +kernel) (by decide)) (
  xval (s_iret (by decide +kernel)) (
  xval_nil))))))))))))
theorem c_L_find : xMet xCl y_L_find ws_L_find rm_L_find (xRun tb_L_find 8) := xMet.ofW (by decide) rfl v_L_find
def hs_L_write : Nat → Option Int32 := fun Z => match Z with
  | 0 => none
  | 1 => some 1
  | 2 => none
  | 3 => none
  | _ => none
def tb_L_write : xT := [(0, o_aload 2 1), (1, o_i 0 1), (2, o_aload 0 1), (3, o_iload 1 1), (4, o_callH (xRun tb_N_write 2) 0 1 1 1 hs_L_write), (7, o_i2l), (8, o_lastore), (9, o_goto 15), (15, o_i 0 1), (16, o_iret)]
abbrev y_L_write : MethodName := ⟨"NameMoverLaw", "write", "(LNameMover;I[J)I"⟩
abbrev rm_L_write : Room := { frames := 8, cells := 1, slots := 6, locals := 139 }
abbrev ws_L_write : List Cond := Cond.codeWith y_L_write method_12_code 4 (some .int) [(0, 9, 12, 15)] :: xtt
set_option maxRecDepth 100000 in
theorem hh_L_write : ∀ Z v, hs_L_write Z = some v → xHand "NameMoverLaw" ws_L_write method_12_code 4 4 [(0, 9, 12, 15)] Z v := fun Z v h => by
  match Z, h with
  | 0, h => cases h
  | 1, h => cases h; exact ⟨[], (0, 9, 12, 15), [], rfl, ⟨by decide, by decide⟩, by decide, tc tw_261, tc tw_351, (fun _ q => absurd q List.not_mem_nil), 1, by decide, Or.inr ⟨3, by decide, (by decide +kernel), (by decide +kernel), (by decide +kernel)⟩⟩
  | 2, h => cases h
  | 3, h => cases h
  | (_ + 4), h => cases h
set_option maxRecDepth 100000 in
theorem v_L_write : ∀ q ∈ tb_L_write, xSd (0, 0) (xEh [(0, 9, 12, 15)]) xCl "NameMoverLaw" ws_L_write method_12_code 4 (some .int) rm_L_write q :=
  xval (s_aload_n (f := 2) (by decide +kernel) rfl) (
  xval (s_iconst (z := 0) (by decide +kernel) (by decide)) (
  xval (s_aload_n (f := 0) (by decide +kernel) rfl) (
  xval (s_iload_n (f := 1) (by decide +kernel) rfl) (
  xval (s_callH (i := 53) c_N_write (by decide +kernel) rfl (xtt_good tw_584) rfl (tc tw_581) (tc tw_582) (tc tw_583) (tc tw_1) ⟨by decide, by decide, by decide +kernel⟩ ⟨by decide, by decide, rfl, rfl, by decide, by decide⟩ hh_L_write) (
  xval (s_i2l (by decide +kernel)) (
  xval (s_lastore (by decide +kernel)) (
  xval (s_goto (z := 6) (by decide +kernel) (by decide)) (
  xval (s_iconst (z := 0) (by decide +kernel) (by decide)) (
  xval (s_iret (by decide +kernel)) (
  xval_nil))))))))))
theorem c_L_write : xMet xCl y_L_write ws_L_write rm_L_write (xRun tb_L_write 4) := xMet.ofW (by decide) rfl v_L_write
def hs_L_byteAt : Nat → Option Int32 := fun Z => match Z with
  | 0 => none
  | 1 => some 1
  | 2 => none
  | 3 => none
  | _ => none
def tb_L_byteAt : xT := [(0, o_aload 2 1), (1, o_i 0 1), (2, o_aload 0 1), (3, o_iload 1 1), (4, o_callH (xRun tb_N_byteAt 2) 0 1 1 1 hs_L_byteAt), (7, o_i2l), (8, o_lastore), (9, o_goto 15), (15, o_i 0 1), (16, o_iret)]
abbrev y_L_byteAt : MethodName := ⟨"NameMoverLaw", "byteAt", "(LNameMover;I[J)I"⟩
abbrev rm_L_byteAt : Room := { frames := 8, cells := 1, slots := 6, locals := 124 }
abbrev ws_L_byteAt : List Cond := Cond.codeWith y_L_byteAt method_13_code 4 (some .int) [(0, 9, 12, 15)] :: xtt
set_option maxRecDepth 100000 in
theorem hh_L_byteAt : ∀ Z v, hs_L_byteAt Z = some v → xHand "NameMoverLaw" ws_L_byteAt method_13_code 4 4 [(0, 9, 12, 15)] Z v := fun Z v h => by
  match Z, h with
  | 0, h => cases h
  | 1, h => cases h; exact ⟨[], (0, 9, 12, 15), [], rfl, ⟨by decide, by decide⟩, by decide, tc tw_261, tc tw_351, (fun _ q => absurd q List.not_mem_nil), 1, by decide, Or.inr ⟨3, by decide, (by decide +kernel), (by decide +kernel), (by decide +kernel)⟩⟩
  | 2, h => cases h
  | 3, h => cases h
  | (_ + 4), h => cases h
set_option maxRecDepth 100000 in
theorem v_L_byteAt : ∀ q ∈ tb_L_byteAt, xSd (0, 0) (xEh [(0, 9, 12, 15)]) xCl "NameMoverLaw" ws_L_byteAt method_13_code 4 (some .int) rm_L_byteAt q :=
  xval (s_aload_n (f := 2) (by decide +kernel) rfl) (
  xval (s_iconst (z := 0) (by decide +kernel) (by decide)) (
  xval (s_aload_n (f := 0) (by decide +kernel) rfl) (
  xval (s_iload_n (f := 1) (by decide +kernel) rfl) (
  xval (s_callH (i := 57) c_N_byteAt (by decide +kernel) rfl (xtt_good tw_666) rfl (tc tw_663) (tc tw_664) (tc tw_665) (tc tw_1) ⟨by decide, by decide, by decide +kernel⟩ ⟨by decide, by decide, rfl, rfl, by decide, by decide⟩ hh_L_byteAt) (
  xval (s_i2l (by decide +kernel)) (
  xval (s_lastore (by decide +kernel)) (
  xval (s_goto (z := 6) (by decide +kernel) (by decide)) (
  xval (s_iconst (z := 0) (by decide +kernel) (by decide)) (
  xval (s_iret (by decide +kernel)) (
  xval_nil))))))))))
theorem c_L_byteAt : xMet xCl y_L_byteAt ws_L_byteAt rm_L_byteAt (xRun tb_L_byteAt 4) := xMet.ofW (by decide) rfl v_L_byteAt
def hs_L_poke : Nat → Option Int32 := fun Z => match Z with
  | 0 => some 2
  | 1 => some 1
  | 2 => none
  | 3 => none
  | _ => none
def tb_L_poke : xT := [(0, o_aload 0 1), (1, o_iload 1 1), (2, o_iload 2 1), (3, o_callH (xRun tb_N_poke 3) 0 2 1 1 hs_L_poke), (6, o_goto 15), (15, o_i 0 1), (16, o_iret)]
abbrev y_L_poke : MethodName := ⟨"NameMoverLaw", "poke", "(LNameMover;II)I"⟩
abbrev rm_L_poke : Room := { frames := 8, cells := 1, slots := 6, locals := 125 }
abbrev ws_L_poke : List Cond := Cond.codeWith y_L_poke method_14_code 4 (some .int) [(0, 6, 9, 15), (0, 6, 12, 13)] :: xtt
set_option maxRecDepth 100000 in
theorem hh_L_poke : ∀ Z v, hs_L_poke Z = some v → xHand "NameMoverLaw" ws_L_poke method_14_code 4 3 [(0, 6, 9, 15), (0, 6, 12, 13)] Z v := fun Z v h => by
  match Z, h with
  | 0, h => cases h; exact ⟨[(0, 6, 9, 15)], (0, 6, 12, 13), [], rfl, ⟨by decide, by decide⟩, by decide, tc tw_260, tc tw_281, (List.forall_mem_cons.mpr ⟨⟨⟨by decide, by decide⟩, by decide, 1, tc tw_261, List.mem_of_getElem? (i := 0) rfl⟩, (fun _ q => absurd q List.not_mem_nil)⟩), 2, by decide, Or.inr ⟨3, by decide, (by decide +kernel), (by decide +kernel), (by decide +kernel)⟩⟩
  | 1, h => cases h; exact ⟨[], (0, 6, 9, 15), [(0, 6, 12, 13)], rfl, ⟨by decide, by decide⟩, by decide, tc tw_261, tc tw_351, (fun _ q => absurd q List.not_mem_nil), 1, by decide, Or.inr ⟨3, by decide, (by decide +kernel), (by decide +kernel), (by decide +kernel)⟩⟩
  | 2, h => cases h
  | 3, h => cases h
  | (_ + 4), h => cases h
set_option maxRecDepth 100000 in
theorem v_L_poke : ∀ q ∈ tb_L_poke, xSd (0, 0) (xEh [(0, 6, 9, 15), (0, 6, 12, 13)]) xCl "NameMoverLaw" ws_L_poke method_14_code 4 (some .int) rm_L_poke q :=
  xval (s_aload_n (f := 0) (by decide +kernel) rfl) (
  xval (s_iload_n (f := 1) (by decide +kernel) rfl) (
  xval (s_iload_n (f := 2) (by decide +kernel) rfl) (
  xval (s_callH (i := 60) c_N_poke (by decide +kernel) rfl (xtt_good tw_680) rfl (tc tw_677) (tc tw_678) (tc tw_679) (tc tw_1) ⟨by decide, by decide, by decide +kernel⟩ ⟨by decide, by decide, rfl, rfl, by decide, by decide⟩ hh_L_poke) (
  xval (s_goto (z := 9) (by decide +kernel) (by decide)) (
  xval (s_iconst (z := 0) (by decide +kernel) (by decide)) (
  xval (s_iret (by decide +kernel)) (
  xval_nil)))))))
theorem c_L_poke : xMet xCl y_L_poke ws_L_poke rm_L_poke (xRun tb_L_poke 4) := xMet.ofW (by decide) rfl v_L_poke
def hs_L_load : Nat → Option Int32 := fun Z => match Z with
  | 0 => some 2
  | 1 => none
  | 2 => some 1
  | 3 => none
  | _ => none
def tb_L_load : xT := [(0, o_aload 1 1), (1, o_i 0 1), (2, o_aload 0 1), (3, o_callH (xRun tb_N_load 1) 0 0 1 1 hs_L_load), (6, o_i2l), (7, o_lastore), (8, o_goto 17), (17, o_i 0 1), (18, o_iret)]
abbrev y_L_load : MethodName := ⟨"NameMoverLaw", "load", "(LNameMover;[J)I"⟩
abbrev rm_L_load : Room := { frames := 7, cells := 1, slots := 6, locals := 169 }
abbrev ws_L_load : List Cond := Cond.codeWith y_L_load method_15_code 3 (some .int) [(0, 8, 11, 17), (0, 8, 14, 13)] :: xtt
set_option maxRecDepth 100000 in
theorem hh_L_load : ∀ Z v, hs_L_load Z = some v → xHand "NameMoverLaw" ws_L_load method_15_code 3 3 [(0, 8, 11, 17), (0, 8, 14, 13)] Z v := fun Z v h => by
  match Z, h with
  | 0, h => cases h; exact ⟨[(0, 8, 11, 17)], (0, 8, 14, 13), [], rfl, ⟨by decide, by decide⟩, by decide, tc tw_260, tc tw_281, (List.forall_mem_cons.mpr ⟨⟨⟨by decide, by decide⟩, by decide, 2, tc tw_262, List.mem_of_getElem? (i := 1) rfl⟩, (fun _ q => absurd q List.not_mem_nil)⟩), 2, by decide, Or.inr ⟨2, by decide, (by decide +kernel), (by decide +kernel), (by decide +kernel)⟩⟩
  | 1, h => cases h
  | 2, h => cases h; exact ⟨[], (0, 8, 11, 17), [(0, 8, 14, 13)], rfl, ⟨by decide, by decide⟩, by decide, tc tw_262, tc tw_380, (fun _ q => absurd q List.not_mem_nil), 1, by decide, Or.inr ⟨2, by decide, (by decide +kernel), (by decide +kernel), (by decide +kernel)⟩⟩
  | 3, h => cases h
  | (_ + 4), h => cases h
set_option maxRecDepth 100000 in
theorem v_L_load : ∀ q ∈ tb_L_load, xSd (0, 0) (xEh [(0, 8, 11, 17), (0, 8, 14, 13)]) xCl "NameMoverLaw" ws_L_load method_15_code 3 (some .int) rm_L_load q :=
  xval (s_aload_n (f := 1) (by decide +kernel) rfl) (
  xval (s_iconst (z := 0) (by decide +kernel) (by decide)) (
  xval (s_aload_n (f := 0) (by decide +kernel) rfl) (
  xval (s_callH (i := 64) c_N_load (by decide +kernel) rfl (xtt_good tw_689) rfl (tc tw_686) (tc tw_687) (tc tw_688) (tc tw_1) ⟨by decide, by decide, by decide +kernel⟩ ⟨by decide, by decide, rfl, rfl, by decide, by decide⟩ hh_L_load) (
  xval (s_i2l (by decide +kernel)) (
  xval (s_lastore (by decide +kernel)) (
  xval (s_goto (z := 9) (by decide +kernel) (by decide)) (
  xval (s_iconst (z := 0) (by decide +kernel) (by decide)) (
  xval (s_iret (by decide +kernel)) (
  xval_nil)))))))))
theorem c_L_load : xMet xCl y_L_load ws_L_load rm_L_load (xRun tb_L_load 3) := xMet.ofW (by decide) rfl v_L_load
