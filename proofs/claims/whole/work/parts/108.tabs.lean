def tb_M_putMember : xT := [(0, o_i 8 2), (2, o_iload 1 1), (3, o_ii (fun a b => a * b)), (4, o_aload 0 1), (5, o_getf 5 6), (8, o_iload 1 1), (9, o_iaload), (10, o_ii (fun a b => a + b)), (11, o_istore 7 2), (13, o_aload 0 1), (14, o_getf 5 7), (17, o_iload 7 2), (19, o_lload 2 1), (20, o_lastore), (21, o_aload 0 1), (22, o_getf 5 8), (25, o_iload 7 2), (27, o_lload 2 1), (28, o_lastore), (29, o_aload 0 1), (30, o_getf 5 9), (33, o_iload 7 2), (35, o_lload 4 2), (37, o_lastore), (38, o_aload 0 1), (39, o_getf 5 10), (42, o_iload 7 2), (44, o_iload 6 2), (46, o_bastore), (47, o_aload 0 1), (48, o_getf 5 6), (51, o_iload 1 1), (52, o_dup2), (53, o_iaload), (54, o_i 1 1), (55, o_ii (fun a b => a + b)), (56, o_iastore), (57, o_vret)]
abbrev y_M_putMember : MethodName := ⟨"NameMoverModel", "putMember", "(IJJZ)V"⟩
abbrev rm_M_putMember : Room := { frames := 0, cells := 0, slots := 0, locals := 0 }
abbrev ws_M_putMember : List Cond := Cond.code y_M_putMember prog_11_method_24_code 8 (none) :: xtt
set_option maxRecDepth 100000 in
theorem v_M_putMember : ∀ q ∈ tb_M_putMember, xSd (0, 0) x0 xCl "NameMoverModel" ws_M_putMember prog_11_method_24_code 8 (none) rm_M_putMember q :=
  xval (s_bipush (z := 8) (by decide +kernel) (by decide)) (
  xval (s_iload_n (f := 1) (by decide +kernel) rfl) (
  xval (s_imul (by decide +kernel)) (
  xval (s_aload_n (f := 0) (by decide +kernel) rfl) (
  xval (s_getf (i := 24) (by decide +kernel) rfl tin_M (by decide) (tc tw_772)) (
  xval (s_iload_n (f := 1) (by decide +kernel) rfl) (
  xval (s_iaload (by decide +kernel)) (
  xval (s_iadd (by decide +kernel)) (
  xval (s_istore (by decide +kernel) (by decide)) (
  xval (s_aload_n (f := 0) (by decide +kernel) rfl) (
  xval (s_getf (i := 27) (by decide +kernel) rfl tin_M (by decide) (tc tw_773)) (
  xval (s_iload (by decide +kernel)) (
  xval (s_lload_n (f := 2) (by decide +kernel) rfl) (
  xval (s_lastore (by decide +kernel)) (
  xval (s_aload_n (f := 0) (by decide +kernel) rfl) (
  xval (s_getf (i := 30) (by decide +kernel) rfl tin_M (by decide) (tc tw_774)) (
  xval (s_iload (by decide +kernel)) (
  xval (s_lload_n (f := 2) (by decide +kernel) rfl) (
  xval (s_lastore (by decide +kernel)) (
  xval (s_aload_n (f := 0) (by decide +kernel) rfl) (
  xval (s_getf (i := 33) (by decide +kernel) rfl tin_M (by decide) (tc tw_775)) (
  xval (s_iload (by decide +kernel)) (
  xval (s_lload (by decide +kernel)) (
  xval (s_lastore (by decide +kernel)) (
  xval (s_aload_n (f := 0) (by decide +kernel) rfl) (
  xval (s_getf (i := 36) (by decide +kernel) rfl tin_M (by decide) (tc tw_776)) (
  xval (s_iload (by decide +kernel)) (
  xval (s_iload (by decide +kernel)) (
  xval (s_bastore (by decide +kernel)) (
  xval (s_aload_n (f := 0) (by decide +kernel) rfl) (
  xval (s_getf (i := 24) (by decide +kernel) rfl tin_M (by decide) (tc tw_772)) (
  xval (s_iload_n (f := 1) (by decide +kernel) rfl) (
  xval (s_dup2 (by decide +kernel)) (
  xval (s_iaload (by decide +kernel)) (
  xval (s_iconst (z := 1) (by decide +kernel) (by decide)) (
  xval (s_iadd (by decide +kernel)) (
  xval (s_iastore (by decide +kernel)) (
  xval (s_vret (by decide +kernel)) (
  xval_nil))))))))))))))))))))))))))))))))))))))
theorem c_M_putMember : xMet xCl y_M_putMember ws_M_putMember rm_M_putMember (xRun tb_M_putMember 8) := xMet.of (by decide) rfl v_M_putMember
def tb_M_member : xT := [(0, o_aload 0 1), (1, o_aload 0 1), (2, o_iload 1 1), (3, o_callV (xRun tb_M_isClass 2) 5 1 0 0), (6, o_ifn (fun a => a = 0) 13), (9, o_i 1 1), (10, o_goto 72), (13, o_lload 2 1), (14, o_i 1 1), (15, o_call (xRun tb_M_isName 8) 2 0 0), (18, o_if (fun a => a = 0) 34), (21, o_aload 0 1), (22, o_lload 4 2), (24, o_aload 0 1), (25, o_getf 5 1), (28, o_callV (xRun tb_M_isDescriptor 5) 5 2 0 0), (31, o_ifn (fun a => a = 0) 38), (34, o_i 2 1), (35, o_goto 72), (38, o_aload 0 1), (39, o_callV (xRun tb_M_moves 4) 5 0 0 0), (42, o_if (fun a => 0 < a) 67), (45, o_aload 0 1), (46, o_getf 5 6), (49, o_iload 1 1), (50, o_iaload), (51, o_i 6 2), (53, o_ic (fun a b => a = b) 67), (56, o_aload 0 1), (57, o_iload 1 1), (58, o_lload 2 1), (59, o_lload 4 2), (61, o_callV (xRun tb_M_has 8) 5 3 0 0), (64, o_if (fun a => a < 0) 71), (67, o_i 3 1), (68, o_goto 72), (71, o_i 0 1), (72, o_puti 5 0), (75, o_aload 0 1), (76, o_getf 5 0), (79, o_if (fun a => a ≤ 0) 84), (82, o_i 0 1), (83, o_iret), (84, o_aload 0 1), (85, o_iload 1 1), (86, o_lload 2 1), (87, o_lload 4 2), (89, o_iload 6 2), (91, o_callV (xRun tb_M_putMember 8) 5 4 0 0), (94, o_aload 0 1), (95, o_getf 5 6), (98, o_iload 1 1), (99, o_iaload), (100, o_i 1 1), (101, o_ii (fun a b => a - b)), (102, o_iret)]
abbrev y_M_member : MethodName := ⟨"NameMoverModel", "member", "(IJJZ)I"⟩
abbrev rm_M_member : Room := { frames := 4, cells := 0, slots := 0, locals := 95 }
abbrev ws_M_member : List Cond := Cond.code y_M_member prog_11_method_25_code 7 (some .int) :: xtt
set_option maxRecDepth 100000 in
theorem v_M_member : ∀ q ∈ tb_M_member, xSd (0, 0) x0 xCl "NameMoverModel" ws_M_member prog_11_method_25_code 7 (some .int) rm_M_member q :=
  xval (s_aload_n (f := 0) (by decide +kernel) rfl) (
  xval (s_aload_n (f := 0) (by decide +kernel) rfl) (
  xval (s_iload_n (f := 1) (by decide +kernel) rfl) (
  xval (s_callV (i := 102) c_M_isClass (by decide +kernel) rfl (xtt_good tw_866) rfl (tc tw_863) (tc tw_865) (tc ts_28) (tc tw_6) ⟨by decide, by decide, by decide +kernel⟩ ⟨by decide, by decide, rfl, rfl, by decide, by decide⟩ x0_e) (
  xval (s_ifne (z := 7) (by decide +kernel) (by decide)) (
  xval (s_iconst (z := 1) (by decide +kernel) (by decide)) (
  xval (s_goto (z := 62) (by decide +kernel) (by decide)) (
  xval (s_lload_n (f := 2) (by decide +kernel) rfl) (
  xval (s_iconst (z := 1) (by decide +kernel) (by decide)) (
  xval (s_callS (i := 109) c_M_isName (by decide +kernel) rfl (xtt_good tw_846) (tc tw_844) (tc tw_845) (tc tw_6) ⟨by decide, by decide, by decide +kernel⟩ ⟨by decide, by decide, rfl, rfl, by decide, by decide⟩ x0_e) (
  xval (s_ifeq (z := 16) (by decide +kernel) (by decide)) (
  xval (s_aload_n (f := 0) (by decide +kernel) rfl) (
  xval (s_lload (by decide +kernel)) (
  xval (s_aload_n (f := 0) (by decide +kernel) rfl) (
  xval (s_getf (i := 99) (by decide +kernel) rfl tin_M (by decide) (tc tw_767)) (
  xval (s_callV (i := 124) c_M_isDescriptor (by decide +kernel) rfl (xtt_good tw_886) rfl (tc tw_883) (tc tw_885) (tc ts_32) (tc tw_6) ⟨by decide, by decide, by decide +kernel⟩ ⟨by decide, by decide, rfl, rfl, by decide, by decide⟩ x0_e) (
  xval (s_ifne (z := 7) (by decide +kernel) (by decide)) (
  xval (s_iconst (z := 2) (by decide +kernel) (by decide)) (
  xval (s_goto (z := 37) (by decide +kernel) (by decide)) (
  xval (s_aload_n (f := 0) (by decide +kernel) rfl) (
  xval (s_callV (i := 113) c_M_moves (by decide +kernel) rfl (xtt_good tw_870) rfl (tc tw_867) (tc tw_869) (tc ts_29) (tc tw_6) ⟨by decide, by decide, by decide +kernel⟩ ⟨by decide, by decide, rfl, rfl, by decide, by decide⟩ x0_e) (
  xval (s_ifgt (z := 25) (by decide +kernel) (by decide)) (
  xval (s_aload_n (f := 0) (by decide +kernel) rfl) (
  xval (s_getf (i := 24) (by decide +kernel) rfl tin_M (by decide) (tc tw_772)) (
  xval (s_iload_n (f := 1) (by decide +kernel) rfl) (
  xval (s_iaload (by decide +kernel)) (
  xval (s_bipush (z := 6) (by decide +kernel) (by decide)) (
  xval (s_iceq (z := 14) (by decide +kernel) (by decide)) (
  xval (s_aload_n (f := 0) (by decide +kernel) rfl) (
  xval (s_iload_n (f := 1) (by decide +kernel) rfl) (
  xval (s_lload_n (f := 2) (by decide +kernel) rfl) (
  xval (s_lload (by decide +kernel)) (
  xval (s_callV (i := 127) c_M_has (by decide +kernel) rfl (xtt_good tw_894) rfl (tc tw_891) (tc tw_893) (tc ts_34) (tc tw_6) ⟨by decide, by decide, by decide +kernel⟩ ⟨by decide, by decide, rfl, rfl, by decide, by decide⟩ x0_e) (
  xval (s_iflt (z := 7) (by decide +kernel) (by decide)) (
  xval (s_iconst (z := 3) (by decide +kernel) (by decide)) (
  xval (s_goto (z := 4) (by decide +kernel) (by decide)) (
  xval (s_iconst (z := 0) (by decide +kernel) (by decide)) (
  xval (s_puti (i := 60) (by decide +kernel) rfl tin_M (by decide) (tc tw_766) tM tM_ok nM rfl (by decide +kernel)) (
  xval (s_aload_n (f := 0) (by decide +kernel) rfl) (
  xval (s_getf (i := 60) (by decide +kernel) rfl tin_M (by decide) (tc tw_766)) (
  xval (s_ifle (z := 5) (by decide +kernel) (by decide)) (
  xval (s_iconst (z := 0) (by decide +kernel) (by decide)) (
  xval (s_iret (by decide +kernel)) (
  xval (s_aload_n (f := 0) (by decide +kernel) rfl) (
  xval (s_iload_n (f := 1) (by decide +kernel) rfl) (
  xval (s_lload_n (f := 2) (by decide +kernel) rfl) (
  xval (s_lload (by decide +kernel)) (
  xval (s_iload (by decide +kernel)) (
  xval (s_callV (i := 131) c_M_putMember (by decide +kernel) rfl (xtt_good tw_898) rfl (tc tw_895) (tc tw_897) (tc ts_35) (tc tw_6) ⟨by decide, by decide, by decide +kernel⟩ ⟨by decide, by decide, rfl, rfl, by decide, by decide⟩ x0_e) (
  xval (s_aload_n (f := 0) (by decide +kernel) rfl) (
  xval (s_getf (i := 24) (by decide +kernel) rfl tin_M (by decide) (tc tw_772)) (
  xval (s_iload_n (f := 1) (by decide +kernel) rfl) (
  xval (s_iaload (by decide +kernel)) (
  xval (s_iconst (z := 1) (by decide +kernel) (by decide)) (
  xval (s_isub (by decide +kernel)) (
  xval (s_iret (by decide +kernel)) (
  xval_nil))))))))))))))))))))))))))))))))))))))))))))))))))))))))
theorem c_M_member : xMet xCl y_M_member ws_M_member rm_M_member (xRun tb_M_member 7) := xMet.of (by decide) rfl v_M_member
def tb_M_moveClass : xT := [(0, o_aload 0 1), (1, o_aload 0 1), (2, o_iload 1 1), (3, o_callV (xRun tb_M_isClass 2) 5 1 0 0), (6, o_ifn (fun a => a = 0) 13), (9, o_i 1 1), (10, o_goto 26), (13, o_lload 2 1), (14, o_i 0 1), (15, o_call (xRun tb_M_isName 8) 2 0 0), (18, o_ifn (fun a => a = 0) 25), (21, o_i 2 1), (22, o_goto 26), (25, o_i 0 1), (26, o_puti 5 0), (29, o_aload 0 1), (30, o_getf 5 0), (33, o_ifn (fun a => a = 0) 43), (36, o_aload 0 1), (37, o_getf 5 3), (40, o_iload 1 1), (41, o_lload 2 1), (42, o_lastore), (43, o_vret)]
abbrev y_M_moveClass : MethodName := ⟨"NameMoverModel", "moveClass", "(IJ)V"⟩
abbrev rm_M_moveClass : Room := { frames := 4, cells := 0, slots := 0, locals := 95 }
abbrev ws_M_moveClass : List Cond := Cond.code y_M_moveClass prog_11_method_26_code 4 (none) :: xtt
set_option maxRecDepth 100000 in
theorem v_M_moveClass : ∀ q ∈ tb_M_moveClass, xSd (0, 0) x0 xCl "NameMoverModel" ws_M_moveClass prog_11_method_26_code 4 (none) rm_M_moveClass q :=
  xval (s_aload_n (f := 0) (by decide +kernel) rfl) (
  xval (s_aload_n (f := 0) (by decide +kernel) rfl) (
  xval (s_iload_n (f := 1) (by decide +kernel) rfl) (
  xval (s_callV (i := 102) c_M_isClass (by decide +kernel) rfl (xtt_good tw_866) rfl (tc tw_863) (tc tw_865) (tc ts_28) (tc tw_6) ⟨by decide, by decide, by decide +kernel⟩ ⟨by decide, by decide, rfl, rfl, by decide, by decide⟩ x0_e) (
  xval (s_ifne (z := 7) (by decide +kernel) (by decide)) (
  xval (s_iconst (z := 1) (by decide +kernel) (by decide)) (
  xval (s_goto (z := 16) (by decide +kernel) (by decide)) (
  xval (s_lload_n (f := 2) (by decide +kernel) rfl) (
  xval (s_iconst (z := 0) (by decide +kernel) (by decide)) (
  xval (s_callS (i := 109) c_M_isName (by decide +kernel) rfl (xtt_good tw_846) (tc tw_844) (tc tw_845) (tc tw_6) ⟨by decide, by decide, by decide +kernel⟩ ⟨by decide, by decide, rfl, rfl, by decide, by decide⟩ x0_e) (
  xval (s_ifne (z := 7) (by decide +kernel) (by decide)) (
  xval (s_iconst (z := 2) (by decide +kernel) (by decide)) (
  xval (s_goto (z := 4) (by decide +kernel) (by decide)) (
  xval (s_iconst (z := 0) (by decide +kernel) (by decide)) (
  xval (s_puti (i := 60) (by decide +kernel) rfl tin_M (by decide) (tc tw_766) tM tM_ok nM rfl (by decide +kernel)) (
  xval (s_aload_n (f := 0) (by decide +kernel) rfl) (
  xval (s_getf (i := 60) (by decide +kernel) rfl tin_M (by decide) (tc tw_766)) (
  xval (s_ifne (z := 10) (by decide +kernel) (by decide)) (
  xval (s_aload_n (f := 0) (by decide +kernel) rfl) (
  xval (s_getf (i := 13) (by decide +kernel) rfl tin_M (by decide) (tc tw_769)) (
  xval (s_iload_n (f := 1) (by decide +kernel) rfl) (
  xval (s_lload_n (f := 2) (by decide +kernel) rfl) (
  xval (s_lastore (by decide +kernel)) (
  xval (s_vret (by decide +kernel)) (
  xval_nil))))))))))))))))))))))))
theorem c_M_moveClass : xMet xCl y_M_moveClass ws_M_moveClass rm_M_moveClass (xRun tb_M_moveClass 4) := xMet.of (by decide) rfl v_M_moveClass
def tb_M_withPackage : xT := [(0, o_lload 0 1), (1, o_call (xRun tb_M_lastPart 4) 1 0 0), (4, o_istore 4 2), (6, o_lload 2 1), (7, o_call (xRun tb_M_length 3) 1 0 0), (10, o_istore 5 2), (12, o_iload 5 2), (14, o_if (fun a => a ≤ 0) 42), (17, o_lload 2 1), (18, o_iload 5 2), (20, o_i 8 2), (22, o_ic (fun a b => b ≤ a) 37), (25, o_l 47 3), (28, o_i 8 2), (30, o_iload 5 2), (32, o_ii (fun a b => a * b)), (33, o_li xshl), (34, o_goto 38), (37, o_l 0 1), (38, o_ll (fun a b => a ||| b)), (39, o_goto 43), (42, o_l 0 1), (43, o_lstore 6 2), (45, o_iload 5 2), (47, o_if (fun a => a ≤ 0) 57), (50, o_iload 5 2), (52, o_i 1 1), (53, o_ii (fun a b => a + b)), (54, o_goto 58), (57, o_i 0 1), (58, o_istore 8 2), (60, o_lload 0 1), (61, o_call (xRun tb_M_length 3) 1 0 0), (64, o_iload 4 2), (66, o_ii (fun a b => a - b)), (67, o_istore 9 2), (69, o_iload 8 2), (71, o_iload 9 2), (73, o_ii (fun a b => a + b)), (74, o_i 8 2), (76, o_ic (fun a b => a ≤ b) 81), (79, o_l 0 1), (80, o_lret), (81, o_i 0 1), (82, o_istore 10 2), (84, o_iload 10 2), (86, o_iload 9 2), (88, o_ic (fun a b => b ≤ a) 121), (91, o_lload 6 2), (93, o_lload 0 1), (94, o_iload 4 2), (96, o_iload 10 2), (98, o_ii (fun a b => a + b)), (99, o_call (xRun tb_M_charAt 3) 2 0 0), (102, o_i2l), (103, o_i 8 2), (105, o_iload 8 2), (107, o_iload 10 2), (109, o_ii (fun a b => a + b)), (110, o_ii (fun a b => a * b)), (111, o_li xshl), (112, o_ll (fun a b => a ||| b)), (113, o_lstore 6 2), (115, o_iinc 10 1), (118, o_goto 84), (121, o_lload 6 2), (123, o_lret)]
abbrev y_M_withPackage : MethodName := ⟨"NameMoverModel", "withPackage", "(JJ)J"⟩
abbrev rm_M_withPackage : Room := { frames := 2, cells := 0, slots := 0, locals := 45 }
abbrev ws_M_withPackage : List Cond := Cond.code y_M_withPackage prog_11_method_27_code 11 (some .long) :: xtt
set_option maxRecDepth 100000 in
theorem v_M_withPackage : ∀ q ∈ tb_M_withPackage, xSd (0, 0) x0 xCl "NameMoverModel" ws_M_withPackage prog_11_method_27_code 11 (some .long) rm_M_withPackage q :=
  xval (s_lload_n (f := 0) (by decide +kernel) rfl) (
  xval (s_callS (i := 85) c_M_lastPart (by decide +kernel) rfl (xtt_good tw_912) (tc tw_910) (tc tw_911) (tc tw_6) ⟨by decide, by decide, by decide +kernel⟩ ⟨by decide, by decide, rfl, rfl, by decide, by decide⟩ x0_e) (
  xval (s_istore (by decide +kernel) (by decide)) (
  xval (s_lload_n (f := 2) (by decide +kernel) rfl) (
  xval (s_callS (i := 70) c_M_length (by decide +kernel) rfl (xtt_good tw_849) (tc tw_847) (tc tw_848) (tc tw_6) ⟨by decide, by decide, by decide +kernel⟩ ⟨by decide, by decide, rfl, rfl, by decide, by decide⟩ x0_e) (
  xval (s_istore (by decide +kernel) (by decide)) (
  xval (s_iload (by decide +kernel)) (
  xval (s_ifle (z := 28) (by decide +kernel) (by decide)) (
  xval (s_lload_n (f := 2) (by decide +kernel) rfl) (
  xval (s_iload (by decide +kernel)) (
  xval (s_bipush (z := 8) (by decide +kernel) (by decide)) (
  xval (s_icge (z := 15) (by decide +kernel) (by decide)) (
  xval (s_ldc2 (i := 135) (by decide +kernel) (tc tw_919)) (
  xval (s_bipush (z := 8) (by decide +kernel) (by decide)) (
  xval (s_iload (by decide +kernel)) (
  xval (s_imul (by decide +kernel)) (
  xval (s_lshl (by decide +kernel)) (
  xval (s_goto (z := 4) (by decide +kernel) (by decide)) (
  xval (s_lconst (z := 0) (by decide +kernel) (by decide)) (
  xval (s_lor (by decide +kernel)) (
  xval (s_goto (z := 4) (by decide +kernel) (by decide)) (
  xval (s_lconst (z := 0) (by decide +kernel) (by decide)) (
  xval (s_lstore (by decide +kernel) (by decide)) (
  xval (s_iload (by decide +kernel)) (
  xval (s_ifle (z := 10) (by decide +kernel) (by decide)) (
  xval (s_iload (by decide +kernel)) (
  xval (s_iconst (z := 1) (by decide +kernel) (by decide)) (
  xval (s_iadd (by decide +kernel)) (
  xval (s_goto (z := 4) (by decide +kernel) (by decide)) (
  xval (s_iconst (z := 0) (by decide +kernel) (by decide)) (
  xval (s_istore (by decide +kernel) (by decide)) (
  xval (s_lload_n (f := 0) (by decide +kernel) rfl) (
  xval (s_callS (i := 70) c_M_length (by decide +kernel) rfl (xtt_good tw_849) (tc tw_847) (tc tw_848) (tc tw_6) ⟨by decide, by decide, by decide +kernel⟩ ⟨by decide, by decide, rfl, rfl, by decide, by decide⟩ x0_e) (
  xval (s_iload (by decide +kernel)) (
  xval (s_isub (by decide +kernel)) (
  xval (s_istore (by decide +kernel) (by decide)) (
  xval (s_iload (by decide +kernel)) (
  xval (s_iload (by decide +kernel)) (
  xval (s_iadd (by decide +kernel)) (
  xval (s_bipush (z := 8) (by decide +kernel) (by decide)) (
  xval (s_icle (z := 5) (by decide +kernel) (by decide)) (
  xval (s_lconst (z := 0) (by decide +kernel) (by decide)) (
  xval (s_lret (by decide +kernel)) (
  xval (s_iconst (z := 0) (by decide +kernel) (by decide)) (
  xval (s_istore (by decide +kernel) (by decide)) (
  xval (s_iload (by decide +kernel)) (
  xval (s_iload (by decide +kernel)) (
  xval (s_icge (z := 33) (by decide +kernel) (by decide)) (
  xval (s_lload (by decide +kernel)) (
  xval (s_lload_n (f := 0) (by decide +kernel) rfl) (
  xval (s_iload (by decide +kernel)) (
  xval (s_iload (by decide +kernel)) (
  xval (s_iadd (by decide +kernel)) (
  xval (s_callS (i := 66) c_M_charAt (by decide +kernel) rfl (xtt_good tw_852) (tc tw_850) (tc tw_851) (tc tw_6) ⟨by decide, by decide, by decide +kernel⟩ ⟨by decide, by decide, rfl, rfl, by decide, by decide⟩ x0_e) (
  xval (s_i2l (by decide +kernel)) (
  xval (s_bipush (z := 8) (by decide +kernel) (by decide)) (
  xval (s_iload (by decide +kernel)) (
  xval (s_iload (by decide +kernel)) (
  xval (s_iadd (by decide +kernel)) (
  xval (s_imul (by decide +kernel)) (
  xval (s_lshl (by decide +kernel)) (
  xval (s_lor (by decide +kernel)) (
  xval (s_lstore (by decide +kernel) (by decide)) (
  xval (s_iinc (z := 1) (by decide +kernel) (by decide) (by decide)) (
  xval (s_goto (z := (-34)) (by decide +kernel) (by decide)) (
  xval (s_lload (by decide +kernel)) (
  xval (s_lret (by decide +kernel)) (
  xval_nil)))))))))))))))))))))))))))))))))))))))))))))))))))))))))))))))))))
theorem c_M_withPackage : xMet xCl y_M_withPackage ws_M_withPackage rm_M_withPackage (xRun tb_M_withPackage 11) := xMet.of (by decide) rfl v_M_withPackage
def tb_M_movePackage : xT := [(0, o_lload 1 1), (1, o_l 0 1), (2, o_lcmp), (3, o_if (fun a => a = 0) 14), (6, o_lload 1 1), (7, o_i 0 1), (8, o_call (xRun tb_M_isName 8) 2 0 0), (11, o_if (fun a => a = 0) 32), (14, o_lload 3 1), (15, o_l 0 1), (16, o_lcmp), (17, o_if (fun a => a = 0) 28), (20, o_lload 3 1), (21, o_i 0 1), (22, o_call (xRun tb_M_isName 8) 2 0 0), (25, o_if (fun a => a = 0) 32), (28, o_i 1 1), (29, o_goto 33), (32, o_i 0 1), (33, o_istore 5 2), (35, o_i 0 1), (36, o_istore 6 2), (38, o_i 0 1), (39, o_istore 7 2), (41, o_iload 7 2), (43, o_aload 0 1), (44, o_getf 5 1), (47, o_ic (fun a b => b ≤ a) 112), (50, o_iload 5 2), (52, o_if (fun a => a = 0) 112), (55, o_aload 0 1), (56, o_getf 5 5), (59, o_iload 7 2), (61, o_baload), (62, o_ifn (fun a => a = 0) 106), (65, o_aload 0 1), (66, o_getf 5 2), (69, o_iload 7 2), (71, o_laload), (72, o_call (xRun tb_M_packageOf 3) 1 0 0), (75, o_lload 1 1), (76, o_lcmp), (77, o_ifn (fun a => a = 0) 106), (80, o_aload 0 1), (81, o_getf 5 2), (84, o_iload 7 2), (86, o_laload), (87, o_lload 3 1), (88, o_call (xRun tb_M_withPackage 11) 2 0 0), (91, o_l 0 1), (92, o_lcmp), (93, o_if (fun a => a = 0) 100), (96, o_i 1 1), (97, o_goto 101), (100, o_i 0 1), (101, o_istore 5 2), (103, o_iinc 6 1), (106, o_iinc 7 1), (109, o_goto 41), (112, o_aload 0 1), (113, o_iload 5 2), (115, o_if (fun a => a = 0) 122), (118, o_i 0 1), (119, o_goto 123), (122, o_i 1 1), (123, o_puti 5 0), (126, o_iload 5 2), (128, o_ifn (fun a => a = 0) 133), (131, o_i 0 1), (132, o_iret), (133, o_i 0 1), (134, o_istore 7 2), (136, o_iload 7 2), (138, o_aload 0 1), (139, o_getf 5 1), (142, o_ic (fun a b => b ≤ a) 206), (145, o_aload 0 1), (146, o_getf 5 5), (149, o_iload 7 2), (151, o_baload), (152, o_ifn (fun a => a = 0) 174), (155, o_aload 0 1), (156, o_getf 5 2), (159, o_iload 7 2), (161, o_laload), (162, o_call (xRun tb_M_packageOf 3) 1 0 0), (165, o_lload 1 1), (166, o_lcmp), (167, o_ifn (fun a => a = 0) 174), (170, o_i 1 1), (171, o_goto 175), (174, o_i 0 1), (175, o_istore 8 2), (177, o_iload 8 2), (179, o_if (fun a => a = 0) 200), (182, o_aload 0 1), (183, o_getf 5 3), (186, o_iload 7 2), (188, o_aload 0 1), (189, o_getf 5 2), (192, o_iload 7 2), (194, o_laload), (195, o_lload 3 1), (196, o_call (xRun tb_M_withPackage 11) 2 0 0), (199, o_lastore), (200, o_iinc 7 1), (203, o_goto 136), (206, o_iload 6 2), (208, o_iret)]
abbrev y_M_movePackage : MethodName := ⟨"NameMoverModel", "movePackage", "(JJ)I"⟩
abbrev rm_M_movePackage : Room := { frames := 4, cells := 0, slots := 0, locals := 95 }
abbrev ws_M_movePackage : List Cond := Cond.code y_M_movePackage prog_11_method_28_code 9 (some .int) :: xtt
set_option maxRecDepth 100000 in
theorem v_M_movePackage : ∀ q ∈ tb_M_movePackage, xSd (0, 0) x0 xCl "NameMoverModel" ws_M_movePackage prog_11_method_28_code 9 (some .int) rm_M_movePackage q :=
  xval (s_lload_n (f := 1) (by decide +kernel) rfl) (
  xval (s_lconst (z := 0) (by decide +kernel) (by decide)) (
  xval (s_lcmp (by decide +kernel)) (
  xval (s_ifeq (z := 11) (by decide +kernel) (by decide)) (
  xval (s_lload_n (f := 1) (by decide +kernel) rfl) (
  xval (s_iconst (z := 0) (by decide +kernel) (by decide)) (
  xval (s_callS (i := 109) c_M_isName (by decide +kernel) rfl (xtt_good tw_846) (tc tw_844) (tc tw_845) (tc tw_6) ⟨by decide, by decide, by decide +kernel⟩ ⟨by decide, by decide, rfl, rfl, by decide, by decide⟩ x0_e) (
  xval (s_ifeq (z := 21) (by decide +kernel) (by decide)) (
  xval (s_lload_n (f := 3) (by decide +kernel) rfl) (
  xval (s_lconst (z := 0) (by decide +kernel) (by decide)) (
  xval (s_lcmp (by decide +kernel)) (
  xval (s_ifeq (z := 11) (by decide +kernel) (by decide)) (
  xval (s_lload_n (f := 3) (by decide +kernel) rfl) (
  xval (s_iconst (z := 0) (by decide +kernel) (by decide)) (
  xval (s_callS (i := 109) c_M_isName (by decide +kernel) rfl (xtt_good tw_846) (tc tw_844) (tc tw_845) (tc tw_6) ⟨by decide, by decide, by decide +kernel⟩ ⟨by decide, by decide, rfl, rfl, by decide, by decide⟩ x0_e) (
  xval (s_ifeq (z := 7) (by decide +kernel) (by decide)) (
  xval (s_iconst (z := 1) (by decide +kernel) (by decide)) (
  xval (s_goto (z := 4) (by decide +kernel) (by decide)) (
  xval (s_iconst (z := 0) (by decide +kernel) (by decide)) (
  xval (s_istore (by decide +kernel) (by decide)) (
  xval (s_iconst (z := 0) (by decide +kernel) (by decide)) (
  xval (s_istore (by decide +kernel) (by decide)) (
  xval (s_iconst (z := 0) (by decide +kernel) (by decide)) (
  xval (s_istore (by decide +kernel) (by decide)) (
  xval (s_iload (by decide +kernel)) (
  xval (s_aload_n (f := 0) (by decide +kernel) rfl) (
  xval (s_getf (i := 99) (by decide +kernel) rfl tin_M (by decide) (tc tw_767)) (
  xval (s_icge (z := 65) (by decide +kernel) (by decide)) (
  xval (s_iload (by decide +kernel)) (
  xval (s_ifeq (z := 60) (by decide +kernel) (by decide)) (
  xval (s_aload_n (f := 0) (by decide +kernel) rfl) (
  xval (s_getf (i := 20) (by decide +kernel) rfl tin_M (by decide) (tc tw_771)) (
  xval (s_iload (by decide +kernel)) (
  xval (s_baload (by decide +kernel)) (
  xval (s_ifne (z := 44) (by decide +kernel) (by decide)) (
  xval (s_aload_n (f := 0) (by decide +kernel) rfl) (
  xval (s_getf (i := 7) (by decide +kernel) rfl tin_M (by decide) (tc tw_768)) (
  xval (s_iload (by decide +kernel)) (
  xval (s_laload (by decide +kernel)) (
  xval (s_callS (i := 137) c_M_packageOf (by decide +kernel) rfl (xtt_good tw_909) (tc tw_907) (tc tw_908) (tc tw_6) ⟨by decide, by decide, by decide +kernel⟩ ⟨by decide, by decide, rfl, rfl, by decide, by decide⟩ x0_e) (
  xval (s_lload_n (f := 1) (by decide +kernel) rfl) (
  xval (s_lcmp (by decide +kernel)) (
  xval (s_ifne (z := 29) (by decide +kernel) (by decide)) (
  xval (s_aload_n (f := 0) (by decide +kernel) rfl) (
  xval (s_getf (i := 7) (by decide +kernel) rfl tin_M (by decide) (tc tw_768)) (
  xval (s_iload (by decide +kernel)) (
  xval (s_laload (by decide +kernel)) (
  xval (s_lload_n (f := 3) (by decide +kernel) rfl) (
  xval (s_callS (i := 141) c_M_withPackage (by decide +kernel) rfl (xtt_good tw_918) (tc tw_916) (tc tw_917) (tc tw_6) ⟨by decide, by decide, by decide +kernel⟩ ⟨by decide, by decide, rfl, rfl, by decide, by decide⟩ x0_e) (
  xval (s_lconst (z := 0) (by decide +kernel) (by decide)) (
  xval (s_lcmp (by decide +kernel)) (
  xval (s_ifeq (z := 7) (by decide +kernel) (by decide)) (
  xval (s_iconst (z := 1) (by decide +kernel) (by decide)) (
  xval (s_goto (z := 4) (by decide +kernel) (by decide)) (
  xval (s_iconst (z := 0) (by decide +kernel) (by decide)) (
  xval (s_istore (by decide +kernel) (by decide)) (
  xval (s_iinc (z := 1) (by decide +kernel) (by decide) (by decide)) (
  xval (s_iinc (z := 1) (by decide +kernel) (by decide) (by decide)) (
  xval (s_goto (z := (-68)) (by decide +kernel) (by decide)) (
  xval (s_aload_n (f := 0) (by decide +kernel) rfl) (
  xval (s_iload (by decide +kernel)) (
  xval (s_ifeq (z := 7) (by decide +kernel) (by decide)) (
  xval (s_iconst (z := 0) (by decide +kernel) (by decide)) (
  xval (s_goto (z := 4) (by decide +kernel) (by decide)) (
  xval (s_iconst (z := 1) (by decide +kernel) (by decide)) (
  xval (s_puti (i := 60) (by decide +kernel) rfl tin_M (by decide) (tc tw_766) tM tM_ok nM rfl (by decide +kernel)) (
  xval (s_iload (by decide +kernel)) (
  xval (s_ifne (z := 5) (by decide +kernel) (by decide)) (
  xval (s_iconst (z := 0) (by decide +kernel) (by decide)) (
  xval (s_iret (by decide +kernel)) (
  xval (s_iconst (z := 0) (by decide +kernel) (by decide)) (
  xval (s_istore (by decide +kernel) (by decide)) (
  xval (s_iload (by decide +kernel)) (
  xval (s_aload_n (f := 0) (by decide +kernel) rfl) (
  xval (s_getf (i := 99) (by decide +kernel) rfl tin_M (by decide) (tc tw_767)) (
  xval (s_icge (z := 64) (by decide +kernel) (by decide)) (
  xval (s_aload_n (f := 0) (by decide +kernel) rfl) (
  xval (s_getf (i := 20) (by decide +kernel) rfl tin_M (by decide) (tc tw_771)) (
  xval (s_iload (by decide +kernel)) (
  xval (s_baload (by decide +kernel)) (
  xval (s_ifne (z := 22) (by decide +kernel) (by decide)) (
  xval (s_aload_n (f := 0) (by decide +kernel) rfl) (
  xval (s_getf (i := 7) (by decide +kernel) rfl tin_M (by decide) (tc tw_768)) (
  xval (s_iload (by decide +kernel)) (
  xval (s_laload (by decide +kernel)) (
  xval (s_callS (i := 137) c_M_packageOf (by decide +kernel) rfl (xtt_good tw_909) (tc tw_907) (tc tw_908) (tc tw_6) ⟨by decide, by decide, by decide +kernel⟩ ⟨by decide, by decide, rfl, rfl, by decide, by decide⟩ x0_e) (
  xval (s_lload_n (f := 1) (by decide +kernel) rfl) (
  xval (s_lcmp (by decide +kernel)) (
  xval (s_ifne (z := 7) (by decide +kernel) (by decide)) (
  xval (s_iconst (z := 1) (by decide +kernel) (by decide)) (
  xval (s_goto (z := 4) (by decide +kernel) (by decide)) (
  xval (s_iconst (z := 0) (by decide +kernel) (by decide)) (
  xval (s_istore (by decide +kernel) (by decide)) (
  xval (s_iload (by decide +kernel)) (
  xval (s_ifeq (z := 21) (by decide +kernel) (by decide)) (
  xval (s_aload_n (f := 0) (by decide +kernel) rfl) (
  xval (s_getf (i := 13) (by decide +kernel) rfl tin_M (by decide) (tc tw_769)) (
  xval (s_iload (by decide +kernel)) (
  xval (s_aload_n (f := 0) (by decide +kernel) rfl) (
  xval (s_getf (i := 7) (by decide +kernel) rfl tin_M (by decide) (tc tw_768)) (
  xval (s_iload (by decide +kernel)) (
  xval (s_laload (by decide +kernel)) (
  xval (s_lload_n (f := 3) (by decide +kernel) rfl) (
  xval (s_callS (i := 141) c_M_withPackage (by decide +kernel) rfl (xtt_good tw_918) (tc tw_916) (tc tw_917) (tc tw_6) ⟨by decide, by decide, by decide +kernel⟩ ⟨by decide, by decide, rfl, rfl, by decide, by decide⟩ x0_e) (
  xval (s_lastore (by decide +kernel)) (
  xval (s_iinc (z := 1) (by decide +kernel) (by decide) (by decide)) (
  xval (s_goto (z := (-67)) (by decide +kernel) (by decide)) (
  xval (s_iload (by decide +kernel)) (
  xval (s_iret (by decide +kernel)) (
  xval_nil)))))))))))))))))))))))))))))))))))))))))))))))))))))))))))))))))))))))))))))))))))))))))))))))))))))))))))))
theorem c_M_movePackage : xMet xCl y_M_movePackage ws_M_movePackage rm_M_movePackage (xRun tb_M_movePackage 9) := xMet.of (by decide) rfl v_M_movePackage
def tb_M_override : xT := [(0, o_aload 0 1), (1, o_getf 5 7), (4, o_iload 1 1), (5, o_laload), (6, o_aload 0 1), (7, o_getf 5 7), (10, o_iload 2 1), (11, o_laload), (12, o_lcmp), (13, o_ifn (fun a => a = 0) 36), (16, o_aload 0 1), (17, o_getf 5 9), (20, o_iload 1 1), (21, o_laload), (22, o_aload 0 1), (23, o_getf 5 9), (26, o_iload 2 1), (27, o_laload), (28, o_lcmp), (29, o_ifn (fun a => a = 0) 36), (32, o_i 1 1), (33, o_goto 37), (36, o_i 0 1), (37, o_istore 3 1), (38, o_iload 3 1), (39, o_if (fun a => a = 0) 98), (42, o_aload 0 1), (43, o_iload 1 1), (44, o_callV (xRun tb_M_isMethod 2) 5 1 0 0), (47, o_if (fun a => a = 0) 98), (50, o_aload 0 1), (51, o_getf 5 10), (54, o_iload 1 1), (55, o_baload), (56, o_ifn (fun a => a = 0) 98), (59, o_aload 0 1), (60, o_getf 5 10), (63, o_iload 2 1), (64, o_baload), (65, o_ifn (fun a => a = 0) 98), (68, o_iload 1 1), (69, o_i 8 2), (71, o_dr (fun a b => a / b)), (72, o_iload 2 1), (73, o_i 8 2), (75, o_dr (fun a b => a / b)), (76, o_ic (fun a b => a = b) 98), (79, o_aload 0 1), (80, o_iload 1 1), (81, o_i 8 2), (83, o_dr (fun a b => a / b)), (84, o_iload 2 1), (85, o_i 8 2), (87, o_dr (fun a b => a / b)), (88, o_callV (xRun tb_M_areRelated 3) 5 2 0 0), (91, o_if (fun a => a = 0) 98), (94, o_i 1 1), (95, o_goto 99), (98, o_i 0 1), (99, o_zret)]
abbrev y_M_override : MethodName := ⟨"NameMoverModel", "override", "(II)Z"⟩
abbrev rm_M_override : Room := { frames := 2, cells := 0, slots := 0, locals := 45 }
abbrev ws_M_override : List Cond := Cond.code y_M_override prog_11_method_29_code 4 (some .boolean) :: xtt
set_option maxRecDepth 100000 in
theorem v_M_override : ∀ q ∈ tb_M_override, xSd (0, 0) x0 xCl "NameMoverModel" ws_M_override prog_11_method_29_code 4 (some .boolean) rm_M_override q :=
  xval (s_aload_n (f := 0) (by decide +kernel) rfl) (
  xval (s_getf (i := 27) (by decide +kernel) rfl tin_M (by decide) (tc tw_773)) (
  xval (s_iload_n (f := 1) (by decide +kernel) rfl) (
  xval (s_laload (by decide +kernel)) (
  xval (s_aload_n (f := 0) (by decide +kernel) rfl) (
  xval (s_getf (i := 27) (by decide +kernel) rfl tin_M (by decide) (tc tw_773)) (
  xval (s_iload_n (f := 2) (by decide +kernel) rfl) (
  xval (s_laload (by decide +kernel)) (
  xval (s_lcmp (by decide +kernel)) (
  xval (s_ifne (z := 23) (by decide +kernel) (by decide)) (
  xval (s_aload_n (f := 0) (by decide +kernel) rfl) (
  xval (s_getf (i := 33) (by decide +kernel) rfl tin_M (by decide) (tc tw_775)) (
  xval (s_iload_n (f := 1) (by decide +kernel) rfl) (
  xval (s_laload (by decide +kernel)) (
  xval (s_aload_n (f := 0) (by decide +kernel) rfl) (
  xval (s_getf (i := 33) (by decide +kernel) rfl tin_M (by decide) (tc tw_775)) (
  xval (s_iload_n (f := 2) (by decide +kernel) rfl) (
  xval (s_laload (by decide +kernel)) (
  xval (s_lcmp (by decide +kernel)) (
  xval (s_ifne (z := 7) (by decide +kernel) (by decide)) (
  xval (s_iconst (z := 1) (by decide +kernel) (by decide)) (
  xval (s_goto (z := 4) (by decide +kernel) (by decide)) (
  xval (s_iconst (z := 0) (by decide +kernel) (by decide)) (
  xval (s_istore_n (f := 3) (by decide +kernel) rfl (by decide)) (
  xval (s_iload_n (f := 3) (by decide +kernel) rfl) (
  xval (s_ifeq (z := 59) (by decide +kernel) (by decide)) (
  xval (s_aload_n (f := 0) (by decide +kernel) rfl) (
  xval (s_iload_n (f := 1) (by decide +kernel) rfl) (
  xval (s_callV (i := 145) c_M_isMethod (by decide +kernel) rfl (xtt_good tw_939) rfl (tc tw_936) (tc tw_938) (tc ts_39) (tc tw_6) ⟨by decide, by decide, by decide +kernel⟩ ⟨by decide, by decide, rfl, rfl, by decide, by decide⟩ x0_e) (
  xval (s_ifeq (z := 51) (by decide +kernel) (by decide)) (
  xval (s_aload_n (f := 0) (by decide +kernel) rfl) (
  xval (s_getf (i := 36) (by decide +kernel) rfl tin_M (by decide) (tc tw_776)) (
  xval (s_iload_n (f := 1) (by decide +kernel) rfl) (
  xval (s_baload (by decide +kernel)) (
  xval (s_ifne (z := 42) (by decide +kernel) (by decide)) (
  xval (s_aload_n (f := 0) (by decide +kernel) rfl) (
  xval (s_getf (i := 36) (by decide +kernel) rfl tin_M (by decide) (tc tw_776)) (
  xval (s_iload_n (f := 2) (by decide +kernel) rfl) (
  xval (s_baload (by decide +kernel)) (
  xval (s_ifne (z := 33) (by decide +kernel) (by decide)) (
  xval (s_iload_n (f := 1) (by decide +kernel) rfl) (
  xval (s_bipush (z := 8) (by decide +kernel) (by decide)) (
  xval (s_idiv (by decide +kernel)) (
  xval (s_iload_n (f := 2) (by decide +kernel) rfl) (
  xval (s_bipush (z := 8) (by decide +kernel) (by decide)) (
  xval (s_idiv (by decide +kernel)) (
  xval (s_iceq (z := 22) (by decide +kernel) (by decide)) (
  xval (s_aload_n (f := 0) (by decide +kernel) rfl) (
  xval (s_iload_n (f := 1) (by decide +kernel) rfl) (
  xval (s_bipush (z := 8) (by decide +kernel) (by decide)) (
  xval (s_idiv (by decide +kernel)) (
  xval (s_iload_n (f := 2) (by decide +kernel) rfl) (
  xval (s_bipush (z := 8) (by decide +kernel) (by decide)) (
  xval (s_idiv (by decide +kernel)) (
  xval (s_callV (i := 148) c_M_areRelated (by decide +kernel) rfl (xtt_good tw_943) rfl (tc tw_940) (tc tw_942) (tc ts_40) (tc tw_6) ⟨by decide, by decide, by decide +kernel⟩ ⟨by decide, by decide, rfl, rfl, by decide, by decide⟩ x0_e) (
  xval (s_ifeq (z := 7) (by decide +kernel) (by decide)) (
  xval (s_iconst (z := 1) (by decide +kernel) (by decide)) (
  xval (s_goto (z := 4) (by decide +kernel) (by decide)) (
  xval (s_iconst (z := 0) (by decide +kernel) (by decide)) (
  xval (s_zret (by decide +kernel)) (
  xval_nil))))))))))))))))))))))))))))))))))))))))))))))))))))))))))))
theorem c_M_override : xMet xCl y_M_override ws_M_override rm_M_override (xRun tb_M_override 4) := xMet.of (by decide) rfl v_M_override
