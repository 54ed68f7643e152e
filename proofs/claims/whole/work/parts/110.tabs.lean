def tb_M_problem : xT := [(0, o_aload 0 1), (1, o_i 0 1), (2, o_puti 5 0), (5, o_aload 0 1), (6, o_callV (xRun tb_M_trouble 5) 5 0 0 0), (9, o_iret)]
abbrev y_M_problem : MethodName := ⟨"NameMoverModel", "problem", "()I"⟩
abbrev rm_M_problem : Room := { frames := 5, cells := 0, slots := 0, locals := 113 }
abbrev ws_M_problem : List Cond := Cond.code y_M_problem prog_11_method_36_code 1 (some .int) :: xtt
set_option maxRecDepth 100000 in
theorem v_M_problem : ∀ q ∈ tb_M_problem, xSd (0, 0) x0 xCl "NameMoverModel" ws_M_problem prog_11_method_36_code 1 (some .int) rm_M_problem q :=
  xval (s_aload_n (f := 0) (by decide +kernel) rfl) (
  xval (s_iconst (z := 0) (by decide +kernel) (by decide)) (
  xval (s_puti (i := 60) (by decide +kernel) rfl tin_M (by decide) (tc tw_766) tM tM_ok nM rfl (by decide +kernel)) (
  xval (s_aload_n (f := 0) (by decide +kernel) rfl) (
  xval (s_callV (i := 171) c_M_trouble (by decide +kernel) rfl (xtt_good tw_955) rfl (tc tw_952) (tc tw_954) (tc ts_42) (tc tw_6) ⟨by decide, by decide, by decide +kernel⟩ ⟨by decide, by decide, rfl, rfl, by decide, by decide⟩ x0_e) (
  xval (s_iret (by decide +kernel)) (
  xval_nil))))))
theorem c_M_problem : xMet xCl y_M_problem ws_M_problem rm_M_problem (xRun tb_M_problem 1) := xMet.of (by decide) rfl v_M_problem
def tb_M_apply : xT := [(0, o_aload 0 1), (1, o_aload 0 1), (2, o_callV (xRun tb_M_trouble 5) 5 0 0 0), (5, o_ifn (fun a => a = 0) 12), (8, o_i 0 1), (9, o_goto 13), (12, o_i 1 1), (13, o_puti 5 0), (16, o_aload 0 1), (17, o_getf 5 0), (20, o_if (fun a => a ≤ 0) 25), (23, o_i 0 1), (24, o_iret), (25, o_aload 0 1), (26, o_callV (xRun tb_M_moves 4) 5 0 0 0), (29, o_istore 1 1), (30, o_i 0 1), (31, o_istore 2 1), (32, o_iload 2 1), (33, o_i 8 2), (35, o_ic (fun a b => b ≤ a) 56), (38, o_aload 0 1), (39, o_getf 5 2), (42, o_iload 2 1), (43, o_aload 0 1), (44, o_getf 5 3), (47, o_iload 2 1), (48, o_laload), (49, o_lastore), (50, o_iinc 2 1), (53, o_goto 32), (56, o_i 0 1), (57, o_istore 2 1), (58, o_iload 2 1), (59, o_i 64 2), (61, o_ic (fun a b => b ≤ a) 82), (64, o_aload 0 1), (65, o_getf 5 7), (68, o_iload 2 1), (69, o_aload 0 1), (70, o_getf 5 8), (73, o_iload 2 1), (74, o_laload), (75, o_lastore), (76, o_iinc 2 1), (79, o_goto 58), (82, o_iload 1 1), (83, o_iret)]
abbrev y_M_apply : MethodName := ⟨"NameMoverModel", "apply", "()I"⟩
abbrev rm_M_apply : Room := { frames := 5, cells := 0, slots := 0, locals := 113 }
abbrev ws_M_apply : List Cond := Cond.code y_M_apply prog_11_method_37_code 3 (some .int) :: xtt
set_option maxRecDepth 100000 in
theorem v_M_apply : ∀ q ∈ tb_M_apply, xSd (0, 0) x0 xCl "NameMoverModel" ws_M_apply prog_11_method_37_code 3 (some .int) rm_M_apply q :=
  xval (s_aload_n (f := 0) (by decide +kernel) rfl) (
  xval (s_aload_n (f := 0) (by decide +kernel) rfl) (
  xval (s_callV (i := 171) c_M_trouble (by decide +kernel) rfl (xtt_good tw_955) rfl (tc tw_952) (tc tw_954) (tc ts_42) (tc tw_6) ⟨by decide, by decide, by decide +kernel⟩ ⟨by decide, by decide, rfl, rfl, by decide, by decide⟩ x0_e) (
  xval (s_ifne (z := 7) (by decide +kernel) (by decide)) (
  xval (s_iconst (z := 0) (by decide +kernel) (by decide)) (
  xval (s_goto (z := 4) (by decide +kernel) (by decide)) (
  xval (s_iconst (z := 1) (by decide +kernel) (by decide)) (
  xval (s_puti (i := 60) (by decide +kernel) rfl tin_M (by decide) (tc tw_766) tM tM_ok nM rfl (by decide +kernel)) (
  xval (s_aload_n (f := 0) (by decide +kernel) rfl) (
  xval (s_getf (i := 60) (by decide +kernel) rfl tin_M (by decide) (tc tw_766)) (
  xval (s_ifle (z := 5) (by decide +kernel) (by decide)) (
  xval (s_iconst (z := 0) (by decide +kernel) (by decide)) (
  xval (s_iret (by decide +kernel)) (
  xval (s_aload_n (f := 0) (by decide +kernel) rfl) (
  xval (s_callV (i := 113) c_M_moves (by decide +kernel) rfl (xtt_good tw_870) rfl (tc tw_867) (tc tw_869) (tc ts_29) (tc tw_6) ⟨by decide, by decide, by decide +kernel⟩ ⟨by decide, by decide, rfl, rfl, by decide, by decide⟩ x0_e) (
  xval (s_istore_n (f := 1) (by decide +kernel) rfl (by decide)) (
  xval (s_iconst (z := 0) (by decide +kernel) (by decide)) (
  xval (s_istore_n (f := 2) (by decide +kernel) rfl (by decide)) (
  xval (s_iload_n (f := 2) (by decide +kernel) rfl) (
  xval (s_bipush (z := 8) (by decide +kernel) (by decide)) (
  xval (s_icge (z := 21) (by decide +kernel) (by decide)) (
  xval (s_aload_n (f := 0) (by decide +kernel) rfl) (
  xval (s_getf (i := 7) (by decide +kernel) rfl tin_M (by decide) (tc tw_768)) (
  xval (s_iload_n (f := 2) (by decide +kernel) rfl) (
  xval (s_aload_n (f := 0) (by decide +kernel) rfl) (
  xval (s_getf (i := 13) (by decide +kernel) rfl tin_M (by decide) (tc tw_769)) (
  xval (s_iload_n (f := 2) (by decide +kernel) rfl) (
  xval (s_laload (by decide +kernel)) (
  xval (s_lastore (by decide +kernel)) (
  xval (s_iinc (z := 1) (by decide +kernel) (by decide) (by decide)) (
  xval (s_goto (z := (-21)) (by decide +kernel) (by decide)) (
  xval (s_iconst (z := 0) (by decide +kernel) (by decide)) (
  xval (s_istore_n (f := 2) (by decide +kernel) rfl (by decide)) (
  xval (s_iload_n (f := 2) (by decide +kernel) rfl) (
  xval (s_bipush (z := 64) (by decide +kernel) (by decide)) (
  xval (s_icge (z := 21) (by decide +kernel) (by decide)) (
  xval (s_aload_n (f := 0) (by decide +kernel) rfl) (
  xval (s_getf (i := 27) (by decide +kernel) rfl tin_M (by decide) (tc tw_773)) (
  xval (s_iload_n (f := 2) (by decide +kernel) rfl) (
  xval (s_aload_n (f := 0) (by decide +kernel) rfl) (
  xval (s_getf (i := 30) (by decide +kernel) rfl tin_M (by decide) (tc tw_774)) (
  xval (s_iload_n (f := 2) (by decide +kernel) rfl) (
  xval (s_laload (by decide +kernel)) (
  xval (s_lastore (by decide +kernel)) (
  xval (s_iinc (z := 1) (by decide +kernel) (by decide) (by decide)) (
  xval (s_goto (z := (-21)) (by decide +kernel) (by decide)) (
  xval (s_iload_n (f := 1) (by decide +kernel) rfl) (
  xval (s_iret (by decide +kernel)) (
  xval_nil))))))))))))))))))))))))))))))))))))))))))))))))
theorem c_M_apply : xMet xCl y_M_apply ws_M_apply rm_M_apply (xRun tb_M_apply 3) := xMet.of (by decide) rfl v_M_apply
def tb_M_cancel : xT := [(0, o_aload 0 1), (1, o_i 0 1), (2, o_puti 5 0), (5, o_aload 0 1), (6, o_callV (xRun tb_M_moves 4) 5 0 0 0), (9, o_istore 1 1), (10, o_i 0 1), (11, o_istore 2 1), (12, o_iload 2 1), (13, o_i 8 2), (15, o_ic (fun a b => b ≤ a) 36), (18, o_aload 0 1), (19, o_getf 5 3), (22, o_iload 2 1), (23, o_aload 0 1), (24, o_getf 5 2), (27, o_iload 2 1), (28, o_laload), (29, o_lastore), (30, o_iinc 2 1), (33, o_goto 12), (36, o_i 0 1), (37, o_istore 2 1), (38, o_iload 2 1), (39, o_i 64 2), (41, o_ic (fun a b => b ≤ a) 62), (44, o_aload 0 1), (45, o_getf 5 8), (48, o_iload 2 1), (49, o_aload 0 1), (50, o_getf 5 7), (53, o_iload 2 1), (54, o_laload), (55, o_lastore), (56, o_iinc 2 1), (59, o_goto 38), (62, o_iload 1 1), (63, o_iret)]
abbrev y_M_cancel : MethodName := ⟨"NameMoverModel", "cancel", "()I"⟩
abbrev rm_M_cancel : Room := { frames := 1, cells := 0, slots := 0, locals := 23 }
abbrev ws_M_cancel : List Cond := Cond.code y_M_cancel prog_11_method_38_code 3 (some .int) :: xtt
set_option maxRecDepth 100000 in
theorem v_M_cancel : ∀ q ∈ tb_M_cancel, xSd (0, 0) x0 xCl "NameMoverModel" ws_M_cancel prog_11_method_38_code 3 (some .int) rm_M_cancel q :=
  xval (s_aload_n (f := 0) (by decide +kernel) rfl) (
  xval (s_iconst (z := 0) (by decide +kernel) (by decide)) (
  xval (s_puti (i := 60) (by decide +kernel) rfl tin_M (by decide) (tc tw_766) tM tM_ok nM rfl (by decide +kernel)) (
  xval (s_aload_n (f := 0) (by decide +kernel) rfl) (
  xval (s_callV (i := 113) c_M_moves (by decide +kernel) rfl (xtt_good tw_870) rfl (tc tw_867) (tc tw_869) (tc ts_29) (tc tw_6) ⟨by decide, by decide, by decide +kernel⟩ ⟨by decide, by decide, rfl, rfl, by decide, by decide⟩ x0_e) (
  xval (s_istore_n (f := 1) (by decide +kernel) rfl (by decide)) (
  xval (s_iconst (z := 0) (by decide +kernel) (by decide)) (
  xval (s_istore_n (f := 2) (by decide +kernel) rfl (by decide)) (
  xval (s_iload_n (f := 2) (by decide +kernel) rfl) (
  xval (s_bipush (z := 8) (by decide +kernel) (by decide)) (
  xval (s_icge (z := 21) (by decide +kernel) (by decide)) (
  xval (s_aload_n (f := 0) (by decide +kernel) rfl) (
  xval (s_getf (i := 13) (by decide +kernel) rfl tin_M (by decide) (tc tw_769)) (
  xval (s_iload_n (f := 2) (by decide +kernel) rfl) (
  xval (s_aload_n (f := 0) (by decide +kernel) rfl) (
  xval (s_getf (i := 7) (by decide +kernel) rfl tin_M (by decide) (tc tw_768)) (
  xval (s_iload_n (f := 2) (by decide +kernel) rfl) (
  xval (s_laload (by decide +kernel)) (
  xval (s_lastore (by decide +kernel)) (
  xval (s_iinc (z := 1) (by decide +kernel) (by decide) (by decide)) (
  xval (s_goto (z := (-21)) (by decide +kernel) (by decide)) (
  xval (s_iconst (z := 0) (by decide +kernel) (by decide)) (
  xval (s_istore_n (f := 2) (by decide +kernel) rfl (by decide)) (
  xval (s_iload_n (f := 2) (by decide +kernel) rfl) (
  xval (s_bipush (z := 64) (by decide +kernel) (by decide)) (
  xval (s_icge (z := 21) (by decide +kernel) (by decide)) (
  xval (s_aload_n (f := 0) (by decide +kernel) rfl) (
  xval (s_getf (i := 30) (by decide +kernel) rfl tin_M (by decide) (tc tw_774)) (
  xval (s_iload_n (f := 2) (by decide +kernel) rfl) (
  xval (s_aload_n (f := 0) (by decide +kernel) rfl) (
  xval (s_getf (i := 27) (by decide +kernel) rfl tin_M (by decide) (tc tw_773)) (
  xval (s_iload_n (f := 2) (by decide +kernel) rfl) (
  xval (s_laload (by decide +kernel)) (
  xval (s_lastore (by decide +kernel)) (
  xval (s_iinc (z := 1) (by decide +kernel) (by decide) (by decide)) (
  xval (s_goto (z := (-21)) (by decide +kernel) (by decide)) (
  xval (s_iload_n (f := 1) (by decide +kernel) rfl) (
  xval (s_iret (by decide +kernel)) (
  xval_nil))))))))))))))))))))))))))))))))))))))
theorem c_M_cancel : xMet xCl y_M_cancel ws_M_cancel rm_M_cancel (xRun tb_M_cancel 3) := xMet.of (by decide) rfl v_M_cancel
def tb_M_classes : xT := [(0, o_aload 0 1), (1, o_i 0 1), (2, o_puti 5 0), (5, o_aload 0 1), (6, o_getf 5 1), (9, o_iret)]
abbrev y_M_classes : MethodName := ⟨"NameMoverModel", "classes", "()I"⟩
abbrev rm_M_classes : Room := { frames := 0, cells := 0, slots := 0, locals := 0 }
abbrev ws_M_classes : List Cond := Cond.code y_M_classes prog_11_method_39_code 1 (some .int) :: xtt
set_option maxRecDepth 100000 in
theorem v_M_classes : ∀ q ∈ tb_M_classes, xSd (0, 0) x0 xCl "NameMoverModel" ws_M_classes prog_11_method_39_code 1 (some .int) rm_M_classes q :=
  xval (s_aload_n (f := 0) (by decide +kernel) rfl) (
  xval (s_iconst (z := 0) (by decide +kernel) (by decide)) (
  xval (s_puti (i := 60) (by decide +kernel) rfl tin_M (by decide) (tc tw_766) tM tM_ok nM rfl (by decide +kernel)) (
  xval (s_aload_n (f := 0) (by decide +kernel) rfl) (
  xval (s_getf (i := 99) (by decide +kernel) rfl tin_M (by decide) (tc tw_767)) (
  xval (s_iret (by decide +kernel)) (
  xval_nil))))))
theorem c_M_classes : xMet xCl y_M_classes ws_M_classes rm_M_classes (xRun tb_M_classes 1) := xMet.of (by decide) rfl v_M_classes
def tb_M_className : xT := [(0, o_aload 0 1), (1, o_aload 0 1), (2, o_iload 1 1), (3, o_callV (xRun tb_M_isClass 2) 5 1 0 0), (6, o_if (fun a => a = 0) 13), (9, o_i 0 1), (10, o_goto 14), (13, o_i 1 1), (14, o_puti 5 0), (17, o_aload 0 1), (18, o_getf 5 0), (21, o_if (fun a => a ≤ 0) 28), (24, o_l 0 1), (25, o_goto 47), (28, o_iload 2 1), (29, o_if (fun a => a = 0) 41), (32, o_aload 0 1), (33, o_getf 5 3), (36, o_iload 1 1), (37, o_laload), (38, o_goto 47), (41, o_aload 0 1), (42, o_getf 5 2), (45, o_iload 1 1), (46, o_laload), (47, o_lret)]
abbrev y_M_className : MethodName := ⟨"NameMoverModel", "className", "(IZ)J"⟩
abbrev rm_M_className : Room := { frames := 1, cells := 0, slots := 0, locals := 21 }
abbrev ws_M_className : List Cond := Cond.code y_M_className prog_11_method_40_code 3 (some .long) :: xtt
set_option maxRecDepth 100000 in
theorem v_M_className : ∀ q ∈ tb_M_className, xSd (0, 0) x0 xCl "NameMoverModel" ws_M_className prog_11_method_40_code 3 (some .long) rm_M_className q :=
  xval (s_aload_n (f := 0) (by decide +kernel) rfl) (
  xval (s_aload_n (f := 0) (by decide +kernel) rfl) (
  xval (s_iload_n (f := 1) (by decide +kernel) rfl) (
  xval (s_callV (i := 102) c_M_isClass (by decide +kernel) rfl (xtt_good tw_866) rfl (tc tw_863) (tc tw_865) (tc ts_28) (tc tw_6) ⟨by decide, by decide, by decide +kernel⟩ ⟨by decide, by decide, rfl, rfl, by decide, by decide⟩ x0_e) (
  xval (s_ifeq (z := 7) (by decide +kernel) (by decide)) (
  xval (s_iconst (z := 0) (by decide +kernel) (by decide)) (
  xval (s_goto (z := 4) (by decide +kernel) (by decide)) (
  xval (s_iconst (z := 1) (by decide +kernel) (by decide)) (
  xval (s_puti (i := 60) (by decide +kernel) rfl tin_M (by decide) (tc tw_766) tM tM_ok nM rfl (by decide +kernel)) (
  xval (s_aload_n (f := 0) (by decide +kernel) rfl) (
  xval (s_getf (i := 60) (by decide +kernel) rfl tin_M (by decide) (tc tw_766)) (
  xval (s_ifle (z := 7) (by decide +kernel) (by decide)) (
  xval (s_lconst (z := 0) (by decide +kernel) (by decide)) (
  xval (s_goto (z := 22) (by decide +kernel) (by decide)) (
  xval (s_iload_n (f := 2) (by decide +kernel) rfl) (
  xval (s_ifeq (z := 12) (by decide +kernel) (by decide)) (
  xval (s_aload_n (f := 0) (by decide +kernel) rfl) (
  xval (s_getf (i := 13) (by decide +kernel) rfl tin_M (by decide) (tc tw_769)) (
  xval (s_iload_n (f := 1) (by decide +kernel) rfl) (
  xval (s_laload (by decide +kernel)) (
  xval (s_goto (z := 9) (by decide +kernel) (by decide)) (
  xval (s_aload_n (f := 0) (by decide +kernel) rfl) (
  xval (s_getf (i := 7) (by decide +kernel) rfl tin_M (by decide) (tc tw_768)) (
  xval (s_iload_n (f := 1) (by decide +kernel) rfl) (
  xval (s_laload (by decide +kernel)) (
  xval (s_lret (by decide +kernel)) (
  xval_nil))))))))))))))))))))))))))
theorem c_M_className : xMet xCl y_M_className ws_M_className rm_M_className (xRun tb_M_className 3) := xMet.of (by decide) rfl v_M_className
def tb_M_memberName : xT := [(0, o_aload 0 1), (1, o_aload 0 1), (2, o_iload 1 1), (3, o_iload 2 1), (4, o_callV (xRun tb_M_isMember 3) 5 2 0 0), (7, o_if (fun a => a = 0) 14), (10, o_i 0 1), (11, o_goto 15), (14, o_i 1 1), (15, o_puti 5 0), (18, o_aload 0 1), (19, o_getf 5 0), (22, o_if (fun a => a ≤ 0) 29), (25, o_l 0 1), (26, o_goto 58), (29, o_iload 3 1), (30, o_if (fun a => a = 0) 47), (33, o_aload 0 1), (34, o_getf 5 8), (37, o_i 8 2), (39, o_iload 1 1), (40, o_ii (fun a b => a * b)), (41, o_iload 2 1), (42, o_ii (fun a b => a + b)), (43, o_laload), (44, o_goto 58), (47, o_aload 0 1), (48, o_getf 5 7), (51, o_i 8 2), (53, o_iload 1 1), (54, o_ii (fun a b => a * b)), (55, o_iload 2 1), (56, o_ii (fun a b => a + b)), (57, o_laload), (58, o_lret)]
abbrev y_M_memberName : MethodName := ⟨"NameMoverModel", "memberName", "(IIZ)J"⟩
abbrev rm_M_memberName : Room := { frames := 2, cells := 0, slots := 0, locals := 43 }
abbrev ws_M_memberName : List Cond := Cond.code y_M_memberName prog_11_method_41_code 4 (some .long) :: xtt
set_option maxRecDepth 100000 in
theorem v_M_memberName : ∀ q ∈ tb_M_memberName, xSd (0, 0) x0 xCl "NameMoverModel" ws_M_memberName prog_11_method_41_code 4 (some .long) rm_M_memberName q :=
  xval (s_aload_n (f := 0) (by decide +kernel) rfl) (
  xval (s_aload_n (f := 0) (by decide +kernel) rfl) (
  xval (s_iload_n (f := 1) (by decide +kernel) rfl) (
  xval (s_iload_n (f := 2) (by decide +kernel) rfl) (
  xval (s_callV (i := 154) c_M_isMember (by decide +kernel) rfl (xtt_good tw_927) rfl (tc tw_924) (tc tw_926) (tc ts_36) (tc tw_6) ⟨by decide, by decide, by decide +kernel⟩ ⟨by decide, by decide, rfl, rfl, by decide, by decide⟩ x0_e) (
  xval (s_ifeq (z := 7) (by decide +kernel) (by decide)) (
  xval (s_iconst (z := 0) (by decide +kernel) (by decide)) (
  xval (s_goto (z := 4) (by decide +kernel) (by decide)) (
  xval (s_iconst (z := 1) (by decide +kernel) (by decide)) (
  xval (s_puti (i := 60) (by decide +kernel) rfl tin_M (by decide) (tc tw_766) tM tM_ok nM rfl (by decide +kernel)) (
  xval (s_aload_n (f := 0) (by decide +kernel) rfl) (
  xval (s_getf (i := 60) (by decide +kernel) rfl tin_M (by decide) (tc tw_766)) (
  xval (s_ifle (z := 7) (by decide +kernel) (by decide)) (
  xval (s_lconst (z := 0) (by decide +kernel) (by decide)) (
  xval (s_goto (z := 32) (by decide +kernel) (by decide)) (
  xval (s_iload_n (f := 3) (by decide +kernel) rfl) (
  xval (s_ifeq (z := 17) (by decide +kernel) (by decide)) (
  xval (s_aload_n (f := 0) (by decide +kernel) rfl) (
  xval (s_getf (i := 30) (by decide +kernel) rfl tin_M (by decide) (tc tw_774)) (
  xval (s_bipush (z := 8) (by decide +kernel) (by decide)) (
  xval (s_iload_n (f := 1) (by decide +kernel) rfl) (
  xval (s_imul (by decide +kernel)) (
  xval (s_iload_n (f := 2) (by decide +kernel) rfl) (
  xval (s_iadd (by decide +kernel)) (
  xval (s_laload (by decide +kernel)) (
  xval (s_goto (z := 14) (by decide +kernel) (by decide)) (
  xval (s_aload_n (f := 0) (by decide +kernel) rfl) (
  xval (s_getf (i := 27) (by decide +kernel) rfl tin_M (by decide) (tc tw_773)) (
  xval (s_bipush (z := 8) (by decide +kernel) (by decide)) (
  xval (s_iload_n (f := 1) (by decide +kernel) rfl) (
  xval (s_imul (by decide +kernel)) (
  xval (s_iload_n (f := 2) (by decide +kernel) rfl) (
  xval (s_iadd (by decide +kernel)) (
  xval (s_laload (by decide +kernel)) (
  xval (s_lret (by decide +kernel)) (
  xval_nil)))))))))))))))))))))))))))))))))))
theorem c_M_memberName : xMet xCl y_M_memberName ws_M_memberName rm_M_memberName (xRun tb_M_memberName 4) := xMet.of (by decide) rfl v_M_memberName
def tb_M_find : xT := [(0, o_aload 0 1), (1, o_aload 0 1), (2, o_iload 1 1), (3, o_callV (xRun tb_M_isClass 2) 5 1 0 0), (6, o_if (fun a => a = 0) 13), (9, o_i 2 1), (10, o_goto 14), (13, o_i 1 1), (14, o_puti 5 0), (17, o_aload 0 1), (18, o_getf 5 0), (21, o_i 2 1), (22, o_icn (fun a b => a = b) 29), (25, o_iload 1 1), (26, o_goto 30), (29, o_i (-1) 1), (30, o_istore 6 2), (32, o_iload 6 2), (34, o_if (fun a => a < 0) 79), (37, o_aload 0 1), (38, o_iload 6 2), (40, o_lload 2 1), (41, o_lload 4 2), (43, o_callV (xRun tb_M_has 8) 5 3 0 0), (46, o_istore 7 2), (48, o_iload 7 2), (50, o_if (fun a => a < 0) 67), (53, o_aload 0 1), (54, o_i 0 1), (55, o_puti 5 0), (58, o_i 8 2), (60, o_iload 6 2), (62, o_ii (fun a b => a * b)), (63, o_iload 7 2), (65, o_ii (fun a b => a + b)), (66, o_iret), (67, o_aload 0 1), (68, o_getf 5 4), (71, o_iload 6 2), (73, o_iaload), (74, o_istore 6 2), (76, o_goto 32), (79, o_i 0 1), (80, o_iret)]
abbrev y_M_find : MethodName := ⟨"NameMoverModel", "find", "(IJJ)I"⟩
abbrev rm_M_find : Room := { frames := 1, cells := 0, slots := 0, locals := 27 }
abbrev ws_M_find : List Cond := Cond.code y_M_find prog_11_method_42_code 8 (some .int) :: xtt
set_option maxRecDepth 100000 in
theorem v_M_find : ∀ q ∈ tb_M_find, xSd (0, 0) x0 xCl "NameMoverModel" ws_M_find prog_11_method_42_code 8 (some .int) rm_M_find q :=
  xval (s_aload_n (f := 0) (by decide +kernel) rfl) (
  xval (s_aload_n (f := 0) (by decide +kernel) rfl) (
  xval (s_iload_n (f := 1) (by decide +kernel) rfl) (
  xval (s_callV (i := 102) c_M_isClass (by decide +kernel) rfl (xtt_good tw_866) rfl (tc tw_863) (tc tw_865) (tc ts_28) (tc tw_6) ⟨by decide, by decide, by decide +kernel⟩ ⟨by decide, by decide, rfl, rfl, by decide, by decide⟩ x0_e) (
  xval (s_ifeq (z := 7) (by decide +kernel) (by decide)) (
  xval (s_iconst (z := 2) (by decide +kernel) (by decide)) (
  xval (s_goto (z := 4) (by decide +kernel) (by decide)) (
  xval (s_iconst (z := 1) (by decide +kernel) (by decide)) (
  xval (s_puti (i := 60) (by decide +kernel) rfl tin_M (by decide) (tc tw_766) tM tM_ok nM rfl (by decide +kernel)) (
  xval (s_aload_n (f := 0) (by decide +kernel) rfl) (
  xval (s_getf (i := 60) (by decide +kernel) rfl tin_M (by decide) (tc tw_766)) (
  xval (s_iconst (z := 2) (by decide +kernel) (by decide)) (
  xval (s_icne (z := 7) (by decide +kernel) (by decide)) (
  xval (s_iload_n (f := 1) (by decide +kernel) rfl) (
  xval (s_goto (z := 4) (by decide +kernel) (by decide)) (
  xval (s_iconst (z := (-1)) (by decide +kernel) (by decide)) (
  xval (s_istore (by decide +kernel) (by decide)) (
  xval (s_iload (by decide +kernel)) (
  xval (s_iflt (z := 45) (by decide +kernel) (by decide)) (
  xval (s_aload_n (f := 0) (by decide +kernel) rfl) (
  xval (s_iload (by decide +kernel)) (
  xval (s_lload_n (f := 2) (by decide +kernel) rfl) (
  xval (s_lload (by decide +kernel)) (
  xval (s_callV (i := 127) c_M_has (by decide +kernel) rfl (xtt_good tw_894) rfl (tc tw_891) (tc tw_893) (tc ts_34) (tc tw_6) ⟨by decide, by decide, by decide +kernel⟩ ⟨by decide, by decide, rfl, rfl, by decide, by decide⟩ x0_e) (
  xval (s_istore (by decide +kernel) (by decide)) (
  xval (s_iload (by decide +kernel)) (
  xval (s_iflt (z := 17) (by decide +kernel) (by decide)) (
  xval (s_aload_n (f := 0) (by decide +kernel) rfl) (
  xval (s_iconst (z := 0) (by decide +kernel) (by decide)) (
  xval (s_puti (i := 60) (by decide +kernel) rfl tin_M (by decide) (tc tw_766) tM tM_ok nM rfl (by decide +kernel)) (
  xval (s_bipush (z := 8) (by decide +kernel) (by decide)) (
  xval (s_iload (by decide +kernel)) (
  xval (s_imul (by decide +kernel)) (
  xval (s_iload (by decide +kernel)) (
  xval (s_iadd (by decide +kernel)) (
  xval (s_iret (by decide +kernel)) (
  xval (s_aload_n (f := 0) (by decide +kernel) rfl) (
  xval (s_getf (i := 16) (by decide +kernel) rfl tin_M (by decide) (tc tw_770)) (
  xval (s_iload (by decide +kernel)) (
  xval (s_iaload (by decide +kernel)) (
  xval (s_istore (by decide +kernel) (by decide)) (
  xval (s_goto (z := (-44)) (by decide +kernel) (by decide)) (
  xval (s_iconst (z := 0) (by decide +kernel) (by decide)) (
  xval (s_iret (by decide +kernel)) (
  xval_nil))))))))))))))))))))))))))))))))))))))))))))
theorem c_M_find : xMet xCl y_M_find ws_M_find rm_M_find (xRun tb_M_find 8) := xMet.of (by decide) rfl v_M_find
def tb_M_pooled : xT := [(0, o_i 0 1), (1, o_istore 1 1), (2, o_iload 1 1), (3, o_aload 0 1), (4, o_getf 5 16), (7, o_ic (fun a b => b ≤ a) 89), (10, o_aload 0 1), (11, o_getf 5 18), (14, o_iload 1 1), (15, o_iaload), (16, o_aload 0 1), (17, o_getf 5 20), (20, o_icn (fun a b => a = b) 27), (23, o_i 1 1), (24, o_goto 28), (27, o_i 0 1), (28, o_istore 2 1), (29, o_i 0 1), (30, o_istore 3 1), (31, o_iload 3 1), (32, o_aload 0 1), (33, o_getf 5 20), (36, o_ic (fun a b => b ≤ a) 75), (39, o_iload 2 1), (40, o_if (fun a => a = 0) 75), (43, o_aload 0 1), (44, o_getf 5 17), (47, o_i 64 2), (49, o_iload 1 1), (50, o_ii (fun a b => a * b)), (51, o_iload 3 1), (52, o_ii (fun a b => a + b)), (53, o_iaload), (54, o_aload 0 1), (55, o_getf 5 19), (58, o_iload 3 1), (59, o_iaload), (60, o_icn (fun a b => a = b) 67), (63, o_i 1 1), (64, o_goto 68), (67, o_i 0 1), (68, o_istore 2 1), (69, o_iinc 3 1), (72, o_goto 31), (75, o_iload 2 1), (76, o_if (fun a => a = 0) 83), (79, o_iload 1 1), (80, o_i 1 1), (81, o_ii (fun a b => a + b)), (82, o_iret), (83, o_iinc 1 1), (86, o_goto 2), (89, o_i 0 1), (90, o_istore 1 1), (91, o_iload 1 1), (92, o_aload 0 1), (93, o_getf 5 20), (96, o_ic (fun a b => b ≤ a) 125), (99, o_aload 0 1), (100, o_getf 5 17), (103, o_i 64 2), (105, o_aload 0 1), (106, o_getf 5 16), (109, o_ii (fun a b => a * b)), (110, o_iload 1 1), (111, o_ii (fun a b => a + b)), (112, o_aload 0 1), (113, o_getf 5 19), (116, o_iload 1 1), (117, o_iaload), (118, o_iastore), (119, o_iinc 1 1), (122, o_goto 91), (125, o_aload 0 1), (126, o_getf 5 18), (129, o_aload 0 1), (130, o_getf 5 16), (133, o_aload 0 1), (134, o_getf 5 20), (137, o_iastore), (138, o_aload 0 1), (139, o_dup), (140, o_getf 5 16), (143, o_i 1 1), (144, o_ii (fun a b => a + b)), (145, o_puti 5 16), (148, o_aload 0 1), (149, o_getf 5 16), (152, o_iret)]
abbrev y_M_pooled : MethodName := ⟨"NameMoverModel", "pooled", "()I"⟩
abbrev rm_M_pooled : Room := { frames := 0, cells := 0, slots := 0, locals := 0 }
abbrev ws_M_pooled : List Cond := Cond.code y_M_pooled prog_11_method_43_code 4 (some .int) :: xtt
set_option maxRecDepth 100000 in
theorem v_M_pooled : ∀ q ∈ tb_M_pooled, xSd (0, 0) x0 xCl "NameMoverModel" ws_M_pooled prog_11_method_43_code 4 (some .int) rm_M_pooled q :=
  xval (s_iconst (z := 0) (by decide +kernel) (by decide)) (
  xval (s_istore_n (f := 1) (by decide +kernel) rfl (by decide)) (
  xval (s_iload_n (f := 1) (by decide +kernel) rfl) (
  xval (s_aload_n (f := 0) (by decide +kernel) rfl) (
  xval (s_getf (i := 174) (by decide +kernel) rfl tin_M (by decide) (tc tw_782)) (
  xval (s_icge (z := 82) (by decide +kernel) (by decide)) (
  xval (s_aload_n (f := 0) (by decide +kernel) rfl) (
  xval (s_getf (i := 51) (by decide +kernel) rfl tin_M (by decide) (tc tw_784)) (
  xval (s_iload_n (f := 1) (by decide +kernel) rfl) (
  xval (s_iaload (by decide +kernel)) (
  xval (s_aload_n (f := 0) (by decide +kernel) rfl) (
  xval (s_getf (i := 177) (by decide +kernel) rfl tin_M (by decide) (tc tw_786)) (
  xval (s_icne (z := 7) (by decide +kernel) (by decide)) (
  xval (s_iconst (z := 1) (by decide +kernel) (by decide)) (
  xval (s_goto (z := 4) (by decide +kernel) (by decide)) (
  xval (s_iconst (z := 0) (by decide +kernel) (by decide)) (
  xval (s_istore_n (f := 2) (by decide +kernel) rfl (by decide)) (
  xval (s_iconst (z := 0) (by decide +kernel) (by decide)) (
  xval (s_istore_n (f := 3) (by decide +kernel) rfl (by decide)) (
  xval (s_iload_n (f := 3) (by decide +kernel) rfl) (
  xval (s_aload_n (f := 0) (by decide +kernel) rfl) (
  xval (s_getf (i := 177) (by decide +kernel) rfl tin_M (by decide) (tc tw_786)) (
  xval (s_icge (z := 39) (by decide +kernel) (by decide)) (
  xval (s_iload_n (f := 2) (by decide +kernel) rfl) (
  xval (s_ifeq (z := 35) (by decide +kernel) (by decide)) (
  xval (s_aload_n (f := 0) (by decide +kernel) rfl) (
  xval (s_getf (i := 48) (by decide +kernel) rfl tin_M (by decide) (tc tw_783)) (
  xval (s_bipush (z := 64) (by decide +kernel) (by decide)) (
  xval (s_iload_n (f := 1) (by decide +kernel) rfl) (
  xval (s_imul (by decide +kernel)) (
  xval (s_iload_n (f := 3) (by decide +kernel) rfl) (
  xval (s_iadd (by decide +kernel)) (
  xval (s_iaload (by decide +kernel)) (
  xval (s_aload_n (f := 0) (by decide +kernel) rfl) (
  xval (s_getf (i := 54) (by decide +kernel) rfl tin_M (by decide) (tc tw_785)) (
  xval (s_iload_n (f := 3) (by decide +kernel) rfl) (
  xval (s_iaload (by decide +kernel)) (
  xval (s_icne (z := 7) (by decide +kernel) (by decide)) (
  xval (s_iconst (z := 1) (by decide +kernel) (by decide)) (
  xval (s_goto (z := 4) (by decide +kernel) (by decide)) (
  xval (s_iconst (z := 0) (by decide +kernel) (by decide)) (
  xval (s_istore_n (f := 2) (by decide +kernel) rfl (by decide)) (
  xval (s_iinc (z := 1) (by decide +kernel) (by decide) (by decide)) (
  xval (s_goto (z := (-41)) (by decide +kernel) (by decide)) (
  xval (s_iload_n (f := 2) (by decide +kernel) rfl) (
  xval (s_ifeq (z := 7) (by decide +kernel) (by decide)) (
  xval (s_iload_n (f := 1) (by decide +kernel) rfl) (
  xval (s_iconst (z := 1) (by decide +kernel) (by decide)) (
  xval (s_iadd (by decide +kernel)) (
  xval (s_iret (by decide +kernel)) (
  xval (s_iinc (z := 1) (by decide +kernel) (by decide) (by decide)) (
  xval (s_goto (z := (-84)) (by decide +kernel) (by decide)) (
  xval (s_iconst (z := 0) (by decide +kernel) (by decide)) (
  xval (s_istore_n (f := 1) (by decide +kernel) rfl (by decide)) (
  xval (s_iload_n (f := 1) (by decide +kernel) rfl) (
  xval (s_aload_n (f := 0) (by decide +kernel) rfl) (
  xval (s_getf (i := 177) (by decide +kernel) rfl tin_M (by decide) (tc tw_786)) (
  xval (s_icge (z := 29) (by decide +kernel) (by decide)) (
  xval (s_aload_n (f := 0) (by decide +kernel) rfl) (
  xval (s_getf (i := 48) (by decide +kernel) rfl tin_M (by decide) (tc tw_783)) (
  xval (s_bipush (z := 64) (by decide +kernel) (by decide)) (
  xval (s_aload_n (f := 0) (by decide +kernel) rfl) (
  xval (s_getf (i := 174) (by decide +kernel) rfl tin_M (by decide) (tc tw_782)) (
  xval (s_imul (by decide +kernel)) (
  xval (s_iload_n (f := 1) (by decide +kernel) rfl) (
  xval (s_iadd (by decide +kernel)) (
  xval (s_aload_n (f := 0) (by decide +kernel) rfl) (
  xval (s_getf (i := 54) (by decide +kernel) rfl tin_M (by decide) (tc tw_785)) (
  xval (s_iload_n (f := 1) (by decide +kernel) rfl) (
  xval (s_iaload (by decide +kernel)) (
  xval (s_iastore (by decide +kernel)) (
  xval (s_iinc (z := 1) (by decide +kernel) (by decide) (by decide)) (
  xval (s_goto (z := (-31)) (by decide +kernel) (by decide)) (
  xval (s_aload_n (f := 0) (by decide +kernel) rfl) (
  xval (s_getf (i := 51) (by decide +kernel) rfl tin_M (by decide) (tc tw_784)) (
  xval (s_aload_n (f := 0) (by decide +kernel) rfl) (
  xval (s_getf (i := 174) (by decide +kernel) rfl tin_M (by decide) (tc tw_782)) (
  xval (s_aload_n (f := 0) (by decide +kernel) rfl) (
  xval (s_getf (i := 177) (by decide +kernel) rfl tin_M (by decide) (tc tw_786)) (
  xval (s_iastore (by decide +kernel)) (
  xval (s_aload_n (f := 0) (by decide +kernel) rfl) (
  xval (s_dup (by decide +kernel)) (
  xval (s_getf (i := 174) (by decide +kernel) rfl tin_M (by decide) (tc tw_782)) (
  xval (s_iconst (z := 1) (by decide +kernel) (by decide)) (
  xval (s_iadd (by decide +kernel)) (
  xval (s_puti (i := 174) (by decide +kernel) rfl tin_M (by decide) (tc tw_782) tM tM_ok nM rfl (by decide +kernel)) (
  xval (s_aload_n (f := 0) (by decide +kernel) rfl) (
  xval (s_getf (i := 174) (by decide +kernel) rfl tin_M (by decide) (tc tw_782)) (
  xval (s_iret (by decide +kernel)) (
  xval_nil)))))))))))))))))))))))))))))))))))))))))))))))))))))))))))))))))))))))))))))))))))))))))
theorem c_M_pooled : xMet xCl y_M_pooled ws_M_pooled rm_M_pooled (xRun tb_M_pooled 4) := xMet.of (by decide) rfl v_M_pooled
def tb_M_spell : xT := [(0, o_lload 1 1), (1, o_call (xRun tb_M_length 3) 1 0 0), (4, o_istore 3 1), (5, o_i 0 1), (6, o_istore 4 2), (8, o_iload 4 2), (10, o_iload 3 1), (11, o_ic (fun a b => b ≤ a) 38), (14, o_aload 0 1), (15, o_getf 5 19), (18, o_aload 0 1), (19, o_getf 5 20), (22, o_iload 4 2), (24, o_ii (fun a b => a + b)), (25, o_lload 1 1), (26, o_iload 4 2), (28, o_call (xRun tb_M_charAt 3) 2 0 0), (31, o_iastore), (32, o_iinc 4 1), (35, o_goto 8), (38, o_aload 0 1), (39, o_dup), (40, o_getf 5 20), (43, o_iload 3 1), (44, o_ii (fun a b => a + b)), (45, o_puti 5 20), (48, o_vret)]
abbrev y_M_spell : MethodName := ⟨"NameMoverModel", "spell", "(J)V"⟩
abbrev rm_M_spell : Room := { frames := 2, cells := 0, slots := 0, locals := 44 }
abbrev ws_M_spell : List Cond := Cond.code y_M_spell prog_11_method_44_code 5 (none) :: xtt
set_option maxRecDepth 100000 in
theorem v_M_spell : ∀ q ∈ tb_M_spell, xSd (0, 0) x0 xCl "NameMoverModel" ws_M_spell prog_11_method_44_code 5 (none) rm_M_spell q :=
  xval (s_lload_n (f := 1) (by decide +kernel) rfl) (
  xval (s_callS (i := 70) c_M_length (by decide +kernel) rfl (xtt_good tw_849) (tc tw_847) (tc tw_848) (tc tw_6) ⟨by decide, by decide, by decide +kernel⟩ ⟨by decide, by decide, rfl, rfl, by decide, by decide⟩ x0_e) (
  xval (s_istore_n (f := 3) (by decide +kernel) rfl (by decide)) (
  xval (s_iconst (z := 0) (by decide +kernel) (by decide)) (
  xval (s_istore (by decide +kernel) (by decide)) (
  xval (s_iload (by decide +kernel)) (
  xval (s_iload_n (f := 3) (by decide +kernel) rfl) (
  xval (s_icge (z := 27) (by decide +kernel) (by decide)) (
  xval (s_aload_n (f := 0) (by decide +kernel) rfl) (
  xval (s_getf (i := 54) (by decide +kernel) rfl tin_M (by decide) (tc tw_785)) (
  xval (s_aload_n (f := 0) (by decide +kernel) rfl) (
  xval (s_getf (i := 177) (by decide +kernel) rfl tin_M (by decide) (tc tw_786)) (
  xval (s_iload (by decide +kernel)) (
  xval (s_iadd (by decide +kernel)) (
  xval (s_lload_n (f := 1) (by decide +kernel) rfl) (
  xval (s_iload (by decide +kernel)) (
  xval (s_callS (i := 66) c_M_charAt (by decide +kernel) rfl (xtt_good tw_852) (tc tw_850) (tc tw_851) (tc tw_6) ⟨by decide, by decide, by decide +kernel⟩ ⟨by decide, by decide, rfl, rfl, by decide, by decide⟩ x0_e) (
  xval (s_iastore (by decide +kernel)) (
  xval (s_iinc (z := 1) (by decide +kernel) (by decide) (by decide)) (
  xval (s_goto (z := (-27)) (by decide +kernel) (by decide)) (
  xval (s_aload_n (f := 0) (by decide +kernel) rfl) (
  xval (s_dup (by decide +kernel)) (
  xval (s_getf (i := 177) (by decide +kernel) rfl tin_M (by decide) (tc tw_786)) (
  xval (s_iload_n (f := 3) (by decide +kernel) rfl) (
  xval (s_iadd (by decide +kernel)) (
  xval (s_puti (i := 177) (by decide +kernel) rfl tin_M (by decide) (tc tw_786) tM tM_ok nM rfl (by decide +kernel)) (
  xval (s_vret (by decide +kernel)) (
  xval_nil)))))))))))))))))))))))))))
theorem c_M_spell : xMet xCl y_M_spell ws_M_spell rm_M_spell (xRun tb_M_spell 5) := xMet.of (by decide) rfl v_M_spell
def tb_M_nameInPool : xT := [(0, o_aload 0 1), (1, o_i 0 1), (2, o_puti 5 20), (5, o_aload 0 1), (6, o_lload 1 1), (7, o_callV (xRun tb_M_spell 5) 5 1 0 0), (10, o_aload 0 1), (11, o_callV (xRun tb_M_pooled 4) 5 0 0 0), (14, o_iret)]
abbrev y_M_nameInPool : MethodName := ⟨"NameMoverModel", "nameInPool", "(J)I"⟩
abbrev rm_M_nameInPool : Room := { frames := 3, cells := 0, slots := 0, locals := 68 }
abbrev ws_M_nameInPool : List Cond := Cond.code y_M_nameInPool prog_11_method_45_code 3 (some .int) :: xtt
set_option maxRecDepth 100000 in
theorem v_M_nameInPool : ∀ q ∈ tb_M_nameInPool, xSd (0, 0) x0 xCl "NameMoverModel" ws_M_nameInPool prog_11_method_45_code 3 (some .int) rm_M_nameInPool q :=
  xval (s_aload_n (f := 0) (by decide +kernel) rfl) (
  xval (s_iconst (z := 0) (by decide +kernel) (by decide)) (
  xval (s_puti (i := 177) (by decide +kernel) rfl tin_M (by decide) (tc tw_786) tM tM_ok nM rfl (by decide +kernel)) (
  xval (s_aload_n (f := 0) (by decide +kernel) rfl) (
  xval (s_lload_n (f := 1) (by decide +kernel) rfl) (
  xval (s_callV (i := 180) c_M_spell (by decide +kernel) rfl (xtt_good tw_1008) rfl (tc tw_1005) (tc tw_1007) (tc ts_48) (tc tw_6) ⟨by decide, by decide, by decide +kernel⟩ ⟨by decide, by decide, rfl, rfl, by decide, by decide⟩ x0_e) (
  xval (s_aload_n (f := 0) (by decide +kernel) rfl) (
  xval (s_callV (i := 184) c_M_pooled (by decide +kernel) rfl (xtt_good tw_1012) rfl (tc tw_1009) (tc tw_1011) (tc ts_49) (tc tw_6) ⟨by decide, by decide, by decide +kernel⟩ ⟨by decide, by decide, rfl, rfl, by decide, by decide⟩ x0_e) (
  xval (s_iret (by decide +kernel)) (
  xval_nil)))))))))
theorem c_M_nameInPool : xMet xCl y_M_nameInPool ws_M_nameInPool rm_M_nameInPool (xRun tb_M_nameInPool 3) := xMet.of (by decide) rfl v_M_nameInPool
def tb_M_descriptorInPool : xT := [(0, o_lload 1 1), (1, o_call (xRun tb_M_length 3) 1 0 0), (4, o_istore 3 1), (5, o_aload 0 1), (6, o_i 0 1), (7, o_puti 5 20), (10, o_i 0 1), (11, o_istore 4 2), (13, o_iload 4 2), (15, o_iload 3 1), (16, o_ic (fun a b => b ≤ a) 111), (19, o_lload 1 1), (20, o_iload 4 2), (22, o_call (xRun tb_M_charAt 3) 2 0 0), (25, o_istore 5 2), (27, o_iload 5 2), (29, o_call (xRun tb_M_isDigit 1) 1 0 0), (32, o_if (fun a => a = 0) 84), (35, o_aload 0 1), (36, o_getf 5 19), (39, o_aload 0 1), (40, o_getf 5 20), (43, o_i 76 2), (45, o_iastore), (46, o_aload 0 1), (47, o_dup), (48, o_getf 5 20), (51, o_i 1 1), (52, o_ii (fun a b => a + b)), (53, o_puti 5 20), (56, o_aload 0 1), (57, o_aload 0 1), (58, o_getf 5 2), (61, o_iload 5 2), (63, o_i 48 2), (65, o_ii (fun a b => a - b)), (66, o_laload), (67, o_callV (xRun tb_M_spell 5) 5 1 0 0), (70, o_aload 0 1), (71, o_getf 5 19), (74, o_aload 0 1), (75, o_getf 5 20), (78, o_i 59 2), (80, o_iastore), (81, o_goto 95), (84, o_aload 0 1), (85, o_getf 5 19), (88, o_aload 0 1), (89, o_getf 5 20), (92, o_iload 5 2), (94, o_iastore), (95, o_aload 0 1), (96, o_dup), (97, o_getf 5 20), (100, o_i 1 1), (101, o_ii (fun a b => a + b)), (102, o_puti 5 20), (105, o_iinc 4 1), (108, o_goto 13), (111, o_aload 0 1), (112, o_callV (xRun tb_M_pooled 4) 5 0 0 0), (115, o_iret)]
abbrev y_M_descriptorInPool : MethodName := ⟨"NameMoverModel", "descriptorInPool", "(J)I"⟩
abbrev rm_M_descriptorInPool : Room := { frames := 3, cells := 0, slots := 0, locals := 68 }
abbrev ws_M_descriptorInPool : List Cond := Cond.code y_M_descriptorInPool prog_11_method_46_code 6 (some .int) :: xtt
set_option maxRecDepth 100000 in
theorem v_M_descriptorInPool : ∀ q ∈ tb_M_descriptorInPool, xSd (0, 0) x0 xCl "NameMoverModel" ws_M_descriptorInPool prog_11_method_46_code 6 (some .int) rm_M_descriptorInPool q :=
  xval (s_lload_n (f := 1) (by decide +kernel) rfl) (
  xval (s_callS (i := 70) c_M_length (by decide +kernel) rfl (xtt_good tw_849) (tc tw_847) (tc tw_848) (tc tw_6) ⟨by decide, by decide, by decide +kernel⟩ ⟨by decide, by decide, rfl, rfl, by decide, by decide⟩ x0_e) (
  xval (s_istore_n (f := 3) (by decide +kernel) rfl (by decide)) (
  xval (s_aload_n (f := 0) (by decide +kernel) rfl) (
  xval (s_iconst (z := 0) (by decide +kernel) (by decide)) (
  xval (s_puti (i := 177) (by decide +kernel) rfl tin_M (by decide) (tc tw_786) tM tM_ok nM rfl (by decide +kernel)) (
  xval (s_iconst (z := 0) (by decide +kernel) (by decide)) (
  xval (s_istore (by decide +kernel) (by decide)) (
  xval (s_iload (by decide +kernel)) (
  xval (s_iload_n (f := 3) (by decide +kernel) rfl) (
  xval (s_icge (z := 95) (by decide +kernel) (by decide)) (
  xval (s_lload_n (f := 1) (by decide +kernel) rfl) (
  xval (s_iload (by decide +kernel)) (
  xval (s_callS (i := 66) c_M_charAt (by decide +kernel) rfl (xtt_good tw_852) (tc tw_850) (tc tw_851) (tc tw_6) ⟨by decide, by decide, by decide +kernel⟩ ⟨by decide, by decide, rfl, rfl, by decide, by decide⟩ x0_e) (
  xval (s_istore (by decide +kernel) (by decide)) (
  xval (s_iload (by decide +kernel)) (
  xval (s_callS (i := 82) c_M_isDigit (by decide +kernel) rfl (xtt_good tw_862) (tc tw_860) (tc tw_861) (tc tw_6) ⟨by decide, by decide, by decide +kernel⟩ ⟨by decide, by decide, rfl, rfl, by decide, by decide⟩ x0_e) (
  xval (s_ifeq (z := 52) (by decide +kernel) (by decide)) (
  xval (s_aload_n (f := 0) (by decide +kernel) rfl) (
  xval (s_getf (i := 54) (by decide +kernel) rfl tin_M (by decide) (tc tw_785)) (
  xval (s_aload_n (f := 0) (by decide +kernel) rfl) (
  xval (s_getf (i := 177) (by decide +kernel) rfl tin_M (by decide) (tc tw_786)) (
  xval (s_bipush (z := 76) (by decide +kernel) (by decide)) (
  xval (s_iastore (by decide +kernel)) (
  xval (s_aload_n (f := 0) (by decide +kernel) rfl) (
  xval (s_dup (by decide +kernel)) (
  xval (s_getf (i := 177) (by decide +kernel) rfl tin_M (by decide) (tc tw_786)) (
  xval (s_iconst (z := 1) (by decide +kernel) (by decide)) (
  xval (s_iadd (by decide +kernel)) (
  xval (s_puti (i := 177) (by decide +kernel) rfl tin_M (by decide) (tc tw_786) tM tM_ok nM rfl (by decide +kernel)) (
  xval (s_aload_n (f := 0) (by decide +kernel) rfl) (
  xval (s_aload_n (f := 0) (by decide +kernel) rfl) (
  xval (s_getf (i := 7) (by decide +kernel) rfl tin_M (by decide) (tc tw_768)) (
  xval (s_iload (by decide +kernel)) (
  xval (s_bipush (z := 48) (by decide +kernel) (by decide)) (
  xval (s_isub (by decide +kernel)) (
  xval (s_laload (by decide +kernel)) (
  xval (s_callV (i := 180) c_M_spell (by decide +kernel) rfl (xtt_good tw_1008) rfl (tc tw_1005) (tc tw_1007) (tc ts_48) (tc tw_6) ⟨by decide, by decide, by decide +kernel⟩ ⟨by decide, by decide, rfl, rfl, by decide, by decide⟩ x0_e) (
  xval (s_aload_n (f := 0) (by decide +kernel) rfl) (
  xval (s_getf (i := 54) (by decide +kernel) rfl tin_M (by decide) (tc tw_785)) (
  xval (s_aload_n (f := 0) (by decide +kernel) rfl) (
  xval (s_getf (i := 177) (by decide +kernel) rfl tin_M (by decide) (tc tw_786)) (
  xval (s_bipush (z := 59) (by decide +kernel) (by decide)) (
  xval (s_iastore (by decide +kernel)) (
  xval (s_goto (z := 14) (by decide +kernel) (by decide)) (
  xval (s_aload_n (f := 0) (by decide +kernel) rfl) (
  xval (s_getf (i := 54) (by decide +kernel) rfl tin_M (by decide) (tc tw_785)) (
  xval (s_aload_n (f := 0) (by decide +kernel) rfl) (
  xval (s_getf (i := 177) (by decide +kernel) rfl tin_M (by decide) (tc tw_786)) (
  xval (s_iload (by decide +kernel)) (
  xval (s_iastore (by decide +kernel)) (
  xval (s_aload_n (f := 0) (by decide +kernel) rfl) (
  xval (s_dup (by decide +kernel)) (
  xval (s_getf (i := 177) (by decide +kernel) rfl tin_M (by decide) (tc tw_786)) (
  xval (s_iconst (z := 1) (by decide +kernel) (by decide)) (
  xval (s_iadd (by decide +kernel)) (
  xval (s_puti (i := 177) (by decide +kernel) rfl tin_M (by decide) (tc tw_786) tM tM_ok nM rfl (by decide +kernel)) (
  xval (s_iinc (z := 1) (by decide +kernel) (by decide) (by decide)) (
  xval (s_goto (z := (-95)) (by decide +kernel) (by decide)) (
  xval (s_aload_n (f := 0) (by decide +kernel) rfl) (
  xval (s_callV (i := 184) c_M_pooled (by decide +kernel) rfl (xtt_good tw_1012) rfl (tc tw_1009) (tc tw_1011) (tc ts_49) (tc tw_6) ⟨by decide, by decide, by decide +kernel⟩ ⟨by decide, by decide, rfl, rfl, by decide, by decide⟩ x0_e) (
  xval (s_iret (by decide +kernel)) (
  xval_nil))))))))))))))))))))))))))))))))))))))))))))))))))))))))))))))
theorem c_M_descriptorInPool : xMet xCl y_M_descriptorInPool ws_M_descriptorInPool rm_M_descriptorInPool (xRun tb_M_descriptorInPool 6) := xMet.of (by decide) rfl v_M_descriptorInPool
