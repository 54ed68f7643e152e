def tb_M_emit : xT := [(0, o_aload 0 1), (1, o_getf 5 14), (4, o_aload 0 1), (5, o_getf 5 15), (8, o_iload 1 1), (9, o_iastore), (10, o_aload 0 1), (11, o_dup), (12, o_getf 5 15), (15, o_i 1 1), (16, o_ii (fun a b => a + b)), (17, o_puti 5 15), (20, o_vret)]
abbrev y_M_emit : MethodName := ⟨"NameMoverModel", "emit", "(I)V"⟩
abbrev rm_M_emit : Room := { frames := 0, cells := 0, slots := 0, locals := 0 }
abbrev ws_M_emit : List Cond := Cond.code y_M_emit prog_11_method_47_code 2 (none) :: xtt
set_option maxRecDepth 100000 in
theorem v_M_emit : ∀ q ∈ tb_M_emit, xSd (0, 0) x0 xCl "NameMoverModel" ws_M_emit prog_11_method_47_code 2 (none) rm_M_emit q :=
  xval (s_aload_n (f := 0) (by decide +kernel) rfl) (
  xval (s_getf (i := 45) (by decide +kernel) rfl tin_M (by decide) (tc tw_780)) (
  xval (s_aload_n (f := 0) (by decide +kernel) rfl) (
  xval (s_getf (i := 187) (by decide +kernel) rfl tin_M (by decide) (tc tw_781)) (
  xval (s_iload_n (f := 1) (by decide +kernel) rfl) (
  xval (s_iastore (by decide +kernel)) (
  xval (s_aload_n (f := 0) (by decide +kernel) rfl) (
  xval (s_dup (by decide +kernel)) (
  xval (s_getf (i := 187) (by decide +kernel) rfl tin_M (by decide) (tc tw_781)) (
  xval (s_iconst (z := 1) (by decide +kernel) (by decide)) (
  xval (s_iadd (by decide +kernel)) (
  xval (s_puti (i := 187) (by decide +kernel) rfl tin_M (by decide) (tc tw_781) tM tM_ok nM rfl (by decide +kernel)) (
  xval (s_vret (by decide +kernel)) (
  xval_nil)))))))))))))
theorem c_M_emit : xMet xCl y_M_emit ws_M_emit rm_M_emit (xRun tb_M_emit 2) := xMet.of (by decide) rfl v_M_emit
def tb_M_make : xT := [(0, o_aload 0 1), (1, o_i 0 1), (2, o_puti 5 16), (5, o_aload 0 1), (6, o_getf 5 21), (9, o_i 0 1), (10, o_aload 0 1), (11, o_aload 0 1), (12, o_getf 5 2), (15, o_iload 1 1), (16, o_laload), (17, o_callV (xRun tb_M_nameInPool 3) 5 1 0 0), (20, o_iastore), (21, o_aload 0 1), (22, o_getf 5 21), (25, o_i 1 1), (26, o_aload 0 1), (27, o_getf 5 4), (30, o_iload 1 1), (31, o_iaload), (32, o_if (fun a => 0 ≤ a) 39), (35, o_i 0 1), (36, o_goto 54), (39, o_aload 0 1), (40, o_aload 0 1), (41, o_getf 5 2), (44, o_aload 0 1), (45, o_getf 5 4), (48, o_iload 1 1), (49, o_iaload), (50, o_laload), (51, o_callV (xRun tb_M_nameInPool 3) 5 1 0 0), (54, o_iastore), (55, o_i 0 1), (56, o_istore 2 1), (57, o_iload 2 1), (58, o_aload 0 1), (59, o_getf 5 6), (62, o_iload 1 1), (63, o_iaload), (64, o_ic (fun a b => b ≤ a) 123), (67, o_aload 0 1), (68, o_getf 5 21), (71, o_i 2 1), (72, o_i 2 1), (73, o_iload 2 1), (74, o_ii (fun a b => a * b)), (75, o_ii (fun a b => a + b)), (76, o_aload 0 1), (77, o_aload 0 1), (78, o_getf 5 7), (81, o_i 8 2), (83, o_iload 1 1), (84, o_ii (fun a b => a * b)), (85, o_iload 2 1), (86, o_ii (fun a b => a + b)), (87, o_laload), (88, o_callV (xRun tb_M_nameInPool 3) 5 1 0 0), (91, o_iastore), (92, o_aload 0 1), (93, o_getf 5 21), (96, o_i 3 1), (97, o_i 2 1), (98, o_iload 2 1), (99, o_ii (fun a b => a * b)), (100, o_ii (fun a b => a + b)), (101, o_aload 0 1), (102, o_aload 0 1), (103, o_getf 5 9), (106, o_i 8 2), (108, o_iload 1 1), (109, o_ii (fun a b => a * b)), (110, o_iload 2 1), (111, o_ii (fun a b => a + b)), (112, o_laload), (113, o_callV (xRun tb_M_descriptorInPool 6) 5 1 0 0), (116, o_iastore), (117, o_iinc 2 1), (120, o_goto 57), (123, o_aload 0 1), (124, o_i 0 1), (125, o_puti 5 15), (128, o_aload 0 1), (129, o_i 202 3), (132, o_callV (xRun tb_M_emit 2) 5 1 0 0), (135, o_aload 0 1), (136, o_aload 0 1), (137, o_getf 5 16), (140, o_callV (xRun tb_M_emit 2) 5 1 0 0), (143, o_i 0 1), (144, o_istore 2 1), (145, o_iload 2 1), (146, o_aload 0 1), (147, o_getf 5 16), (150, o_ic (fun a b => b ≤ a) 202), (153, o_aload 0 1), (154, o_aload 0 1), (155, o_getf 5 18), (158, o_iload 2 1), (159, o_iaload), (160, o_callV (xRun tb_M_emit 2) 5 1 0 0), (163, o_i 0 1), (164, o_istore 3 1), (165, o_iload 3 1), (166, o_aload 0 1), (167, o_getf 5 18), (170, o_iload 2 1), (171, o_iaload), (172, o_ic (fun a b => b ≤ a) 196), (175, o_aload 0 1), (176, o_aload 0 1), (177, o_getf 5 17), (180, o_i 64 2), (182, o_iload 2 1), (183, o_ii (fun a b => a * b)), (184, o_iload 3 1), (185, o_ii (fun a b => a + b)), (186, o_iaload), (187, o_callV (xRun tb_M_emit 2) 5 1 0 0), (190, o_iinc 3 1), (193, o_goto 165), (196, o_iinc 2 1), (199, o_goto 145), (202, o_aload 0 1), (203, o_aload 0 1), (204, o_getf 5 21), (207, o_i 0 1), (208, o_iaload), (209, o_callV (xRun tb_M_emit 2) 5 1 0 0), (212, o_aload 0 1), (213, o_aload 0 1), (214, o_getf 5 21), (217, o_i 1 1), (218, o_iaload), (219, o_callV (xRun tb_M_emit 2) 5 1 0 0), (222, o_aload 0 1), (223, o_aload 0 1), (224, o_getf 5 5), (227, o_iload 1 1), (228, o_baload), (229, o_if (fun a => a = 0) 236), (232, o_i 1 1), (233, o_goto 237), (236, o_i 0 1), (237, o_callV (xRun tb_M_emit 2) 5 1 0 0), (240, o_aload 0 1), (241, o_aload 0 1), (242, o_getf 5 6), (245, o_iload 1 1), (246, o_iaload), (247, o_callV (xRun tb_M_emit 2) 5 1 0 0), (250, o_i 0 1), (251, o_istore 2 1), (252, o_iload 2 1), (253, o_aload 0 1), (254, o_getf 5 6), (257, o_iload 1 1), (258, o_iaload), (259, o_ic (fun a b => b ≤ a) 319), (262, o_aload 0 1), (263, o_aload 0 1), (264, o_getf 5 21), (267, o_i 2 1), (268, o_i 2 1), (269, o_iload 2 1), (270, o_ii (fun a b => a * b)), (271, o_ii (fun a b => a + b)), (272, o_iaload), (273, o_callV (xRun tb_M_emit 2) 5 1 0 0), (276, o_aload 0 1), (277, o_aload 0 1), (278, o_getf 5 21), (281, o_i 3 1), (282, o_i 2 1), (283, o_iload 2 1), (284, o_ii (fun a b => a * b)), (285, o_ii (fun a b => a + b)), (286, o_iaload), (287, o_callV (xRun tb_M_emit 2) 5 1 0 0), (290, o_aload 0 1), (291, o_aload 0 1), (292, o_getf 5 10), (295, o_i 8 2), (297, o_iload 1 1), (298, o_ii (fun a b => a * b)), (299, o_iload 2 1), (300, o_ii (fun a b => a + b)), (301, o_baload), (302, o_if (fun a => a = 0) 309), (305, o_i 1 1), (306, o_goto 310), (309, o_i 0 1), (310, o_callV (xRun tb_M_emit 2) 5 1 0 0), (313, o_iinc 2 1), (316, o_goto 252), (319, o_vret)]
abbrev y_M_make : MethodName := ⟨"NameMoverModel", "make", "(I)V"⟩
abbrev rm_M_make : Room := { frames := 4, cells := 0, slots := 0, locals := 93 }
abbrev ws_M_make : List Cond := Cond.code y_M_make prog_11_method_48_code 4 (none) :: xtt
set_option maxRecDepth 100000 in
theorem v_M_make : ∀ q ∈ tb_M_make, xSd (0, 0) x0 xCl "NameMoverModel" ws_M_make prog_11_method_48_code 4 (none) rm_M_make q :=
  xval (s_aload_n (f := 0) (by decide +kernel) rfl) (
  xval (s_iconst (z := 0) (by decide +kernel) (by decide)) (
  xval (s_puti (i := 174) (by decide +kernel) rfl tin_M (by decide) (tc tw_782) tM tM_ok nM rfl (by decide +kernel)) (
  xval (s_aload_n (f := 0) (by decide +kernel) rfl) (
  xval (s_getf (i := 57) (by decide +kernel) rfl tin_M (by decide) (tc tw_787)) (
  xval (s_iconst (z := 0) (by decide +kernel) (by decide)) (
  xval (s_aload_n (f := 0) (by decide +kernel) rfl) (
  xval (s_aload_n (f := 0) (by decide +kernel) rfl) (
  xval (s_getf (i := 7) (by decide +kernel) rfl tin_M (by decide) (tc tw_768)) (
  xval (s_iload_n (f := 1) (by decide +kernel) rfl) (
  xval (s_laload (by decide +kernel)) (
  xval (s_callV (i := 190) c_M_nameInPool (by decide +kernel) rfl (xtt_good tw_1004) rfl (tc tw_1001) (tc tw_1003) (tc ts_47) (tc tw_6) ⟨by decide, by decide, by decide +kernel⟩ ⟨by decide, by decide, rfl, rfl, by decide, by decide⟩ x0_e) (
  xval (s_iastore (by decide +kernel)) (
  xval (s_aload_n (f := 0) (by decide +kernel) rfl) (
  xval (s_getf (i := 57) (by decide +kernel) rfl tin_M (by decide) (tc tw_787)) (
  xval (s_iconst (z := 1) (by decide +kernel) (by decide)) (
  xval (s_aload_n (f := 0) (by decide +kernel) rfl) (
  xval (s_getf (i := 16) (by decide +kernel) rfl tin_M (by decide) (tc tw_770)) (
  xval (s_iload_n (f := 1) (by decide +kernel) rfl) (
  xval (s_iaload (by decide +kernel)) (
  xval (s_ifge (z := 7) (by decide +kernel) (by decide)) (
  xval (s_iconst (z := 0) (by decide +kernel) (by decide)) (
  xval (s_goto (z := 18) (by decide +kernel) (by decide)) (
  xval (s_aload_n (f := 0) (by decide +kernel) rfl) (
  xval (s_aload_n (f := 0) (by decide +kernel) rfl) (
  xval (s_getf (i := 7) (by decide +kernel) rfl tin_M (by decide) (tc tw_768)) (
  xval (s_aload_n (f := 0) (by decide +kernel) rfl) (
  xval (s_getf (i := 16) (by decide +kernel) rfl tin_M (by decide) (tc tw_770)) (
  xval (s_iload_n (f := 1) (by decide +kernel) rfl) (
  xval (s_iaload (by decide +kernel)) (
  xval (s_laload (by decide +kernel)) (
  xval (s_callV (i := 190) c_M_nameInPool (by decide +kernel) rfl (xtt_good tw_1004) rfl (tc tw_1001) (tc tw_1003) (tc ts_47) (tc tw_6) ⟨by decide, by decide, by decide +kernel⟩ ⟨by decide, by decide, rfl, rfl, by decide, by decide⟩ x0_e) (
  xval (s_iastore (by decide +kernel)) (
  xval (s_iconst (z := 0) (by decide +kernel) (by decide)) (
  xval (s_istore_n (f := 2) (by decide +kernel) rfl (by decide)) (
  xval (s_iload_n (f := 2) (by decide +kernel) rfl) (
  xval (s_aload_n (f := 0) (by decide +kernel) rfl) (
  xval (s_getf (i := 24) (by decide +kernel) rfl tin_M (by decide) (tc tw_772)) (
  xval (s_iload_n (f := 1) (by decide +kernel) rfl) (
  xval (s_iaload (by decide +kernel)) (
  xval (s_icge (z := 59) (by decide +kernel) (by decide)) (
  xval (s_aload_n (f := 0) (by decide +kernel) rfl) (
  xval (s_getf (i := 57) (by decide +kernel) rfl tin_M (by decide) (tc tw_787)) (
  xval (s_iconst (z := 2) (by decide +kernel) (by decide)) (
  xval (s_iconst (z := 2) (by decide +kernel) (by decide)) (
  xval (s_iload_n (f := 2) (by decide +kernel) rfl) (
  xval (s_imul (by decide +kernel)) (
  xval (s_iadd (by decide +kernel)) (
  xval (s_aload_n (f := 0) (by decide +kernel) rfl) (
  xval (s_aload_n (f := 0) (by decide +kernel) rfl) (
  xval (s_getf (i := 27) (by decide +kernel) rfl tin_M (by decide) (tc tw_773)) (
  xval (s_bipush (z := 8) (by decide +kernel) (by decide)) (
  xval (s_iload_n (f := 1) (by decide +kernel) rfl) (
  xval (s_imul (by decide +kernel)) (
  xval (s_iload_n (f := 2) (by decide +kernel) rfl) (
  xval (s_iadd (by decide +kernel)) (
  xval (s_laload (by decide +kernel)) (
  xval (s_callV (i := 190) c_M_nameInPool (by decide +kernel) rfl (xtt_good tw_1004) rfl (tc tw_1001) (tc tw_1003) (tc ts_47) (tc tw_6) ⟨by decide, by decide, by decide +kernel⟩ ⟨by decide, by decide, rfl, rfl, by decide, by decide⟩ x0_e) (
  xval (s_iastore (by decide +kernel)) (
  xval (s_aload_n (f := 0) (by decide +kernel) rfl) (
  xval (s_getf (i := 57) (by decide +kernel) rfl tin_M (by decide) (tc tw_787)) (
  xval (s_iconst (z := 3) (by decide +kernel) (by decide)) (
  xval (s_iconst (z := 2) (by decide +kernel) (by decide)) (
  xval (s_iload_n (f := 2) (by decide +kernel) rfl) (
  xval (s_imul (by decide +kernel)) (
  xval (s_iadd (by decide +kernel)) (
  xval (s_aload_n (f := 0) (by decide +kernel) rfl) (
  xval (s_aload_n (f := 0) (by decide +kernel) rfl) (
  xval (s_getf (i := 33) (by decide +kernel) rfl tin_M (by decide) (tc tw_775)) (
  xval (s_bipush (z := 8) (by decide +kernel) (by decide)) (
  xval (s_iload_n (f := 1) (by decide +kernel) rfl) (
  xval (s_imul (by decide +kernel)) (
  xval (s_iload_n (f := 2) (by decide +kernel) rfl) (
  xval (s_iadd (by decide +kernel)) (
  xval (s_laload (by decide +kernel)) (
  xval (s_callV (i := 193) c_M_descriptorInPool (by decide +kernel) rfl (xtt_good tw_1016) rfl (tc tw_1013) (tc tw_1015) (tc ts_50) (tc tw_6) ⟨by decide, by decide, by decide +kernel⟩ ⟨by decide, by decide, rfl, rfl, by decide, by decide⟩ x0_e) (
  xval (s_iastore (by decide +kernel)) (
  xval (s_iinc (z := 1) (by decide +kernel) (by decide) (by decide)) (
  xval (s_goto (z := (-63)) (by decide +kernel) (by decide)) (
  xval (s_aload_n (f := 0) (by decide +kernel) rfl) (
  xval (s_iconst (z := 0) (by decide +kernel) (by decide)) (
  xval (s_puti (i := 187) (by decide +kernel) rfl tin_M (by decide) (tc tw_781) tM tM_ok nM rfl (by decide +kernel)) (
  xval (s_aload_n (f := 0) (by decide +kernel) rfl) (
  xval (s_sipush (z := 202) (by decide +kernel) (by decide)) (
  xval (s_callV (i := 196) c_M_emit (by decide +kernel) rfl (xtt_good tw_1020) rfl (tc tw_1017) (tc tw_1019) (tc ts_51) (tc tw_6) ⟨by decide, by decide, by decide +kernel⟩ ⟨by decide, by decide, rfl, rfl, by decide, by decide⟩ x0_e) (
  xval (s_aload_n (f := 0) (by decide +kernel) rfl) (
  xval (s_aload_n (f := 0) (by decide +kernel) rfl) (
  xval (s_getf (i := 174) (by decide +kernel) rfl tin_M (by decide) (tc tw_782)) (
  xval (s_callV (i := 196) c_M_emit (by decide +kernel) rfl (xtt_good tw_1020) rfl (tc tw_1017) (tc tw_1019) (tc ts_51) (tc tw_6) ⟨by decide, by decide, by decide +kernel⟩ ⟨by decide, by decide, rfl, rfl, by decide, by decide⟩ x0_e) (
  xval (s_iconst (z := 0) (by decide +kernel) (by decide)) (
  xval (s_istore_n (f := 2) (by decide +kernel) rfl (by decide)) (
  xval (s_iload_n (f := 2) (by decide +kernel) rfl) (
  xval (s_aload_n (f := 0) (by decide +kernel) rfl) (
  xval (s_getf (i := 174) (by decide +kernel) rfl tin_M (by decide) (tc tw_782)) (
  xval (s_icge (z := 52) (by decide +kernel) (by decide)) (
  xval (s_aload_n (f := 0) (by decide +kernel) rfl) (
  xval (s_aload_n (f := 0) (by decide +kernel) rfl) (
  xval (s_getf (i := 51) (by decide +kernel) rfl tin_M (by decide) (tc tw_784)) (
  xval (s_iload_n (f := 2) (by decide +kernel) rfl) (
  xval (s_iaload (by decide +kernel)) (
  xval (s_callV (i := 196) c_M_emit (by decide +kernel) rfl (xtt_good tw_1020) rfl (tc tw_1017) (tc tw_1019) (tc ts_51) (tc tw_6) ⟨by decide, by decide, by decide +kernel⟩ ⟨by decide, by decide, rfl, rfl, by decide, by decide⟩ x0_e) (
  xval (s_iconst (z := 0) (by decide +kernel) (by decide)) (
  xval (s_istore_n (f := 3) (by decide +kernel) rfl (by decide)) (
  xval (s_iload_n (f := 3) (by decide +kernel) rfl) (
  xval (s_aload_n (f := 0) (by decide +kernel) rfl) (
  xval (s_getf (i := 51) (by decide +kernel) rfl tin_M (by decide) (tc tw_784)) (
  xval (s_iload_n (f := 2) (by decide +kernel) rfl) (
  xval (s_iaload (by decide +kernel)) (
  xval (s_icge (z := 24) (by decide +kernel) (by decide)) (
  xval (s_aload_n (f := 0) (by decide +kernel) rfl) (
  xval (s_aload_n (f := 0) (by decide +kernel) rfl) (
  xval (s_getf (i := 48) (by decide +kernel) rfl tin_M (by decide) (tc tw_783)) (
  xval (s_bipush (z := 64) (by decide +kernel) (by decide)) (
  xval (s_iload_n (f := 2) (by decide +kernel) rfl) (
  xval (s_imul (by decide +kernel)) (
  xval (s_iload_n (f := 3) (by decide +kernel) rfl) (
  xval (s_iadd (by decide +kernel)) (
  xval (s_iaload (by decide +kernel)) (
  xval (s_callV (i := 196) c_M_emit (by decide +kernel) rfl (xtt_good tw_1020) rfl (tc tw_1017) (tc tw_1019) (tc ts_51) (tc tw_6) ⟨by decide, by decide, by decide +kernel⟩ ⟨by decide, by decide, rfl, rfl, by decide, by decide⟩ x0_e) (
  xval (s_iinc (z := 1) (by decide +kernel) (by decide) (by decide)) (
  xval (s_goto (z := (-28)) (by decide +kernel) (by decide)) (
  xval (s_iinc (z := 1) (by decide +kernel) (by decide) (by decide)) (
  xval (s_goto (z := (-54)) (by decide +kernel) (by decide)) (
  xval (s_aload_n (f := 0) (by decide +kernel) rfl) (
  xval (s_aload_n (f := 0) (by decide +kernel) rfl) (
  xval (s_getf (i := 57) (by decide +kernel) rfl tin_M (by decide) (tc tw_787)) (
  xval (s_iconst (z := 0) (by decide +kernel) (by decide)) (
  xval (s_iaload (by decide +kernel)) (
  xval (s_callV (i := 196) c_M_emit (by decide +kernel) rfl (xtt_good tw_1020) rfl (tc tw_1017) (tc tw_1019) (tc ts_51) (tc tw_6) ⟨by decide, by decide, by decide +kernel⟩ ⟨by decide, by decide, rfl, rfl, by decide, by decide⟩ x0_e) (
  xval (s_aload_n (f := 0) (by decide +kernel) rfl) (
  xval (s_aload_n (f := 0) (by decide +kernel) rfl) (
  xval (s_getf (i := 57) (by decide +kernel) rfl tin_M (by decide) (tc tw_787)) (
  xval (s_iconst (z := 1) (by decide +kernel) (by decide)) (
  xval (s_iaload (by decide +kernel)) (
  xval (s_callV (i := 196) c_M_emit (by decide +kernel) rfl (xtt_good tw_1020) rfl (tc tw_1017) (tc tw_1019) (tc ts_51) (tc tw_6) ⟨by decide, by decide, by decide +kernel⟩ ⟨by decide, by decide, rfl, rfl, by decide, by decide⟩ x0_e) (
  xval (s_aload_n (f := 0) (by decide +kernel) rfl) (
  xval (s_aload_n (f := 0) (by decide +kernel) rfl) (
  xval (s_getf (i := 20) (by decide +kernel) rfl tin_M (by decide) (tc tw_771)) (
  xval (s_iload_n (f := 1) (by decide +kernel) rfl) (
  xval (s_baload (by decide +kernel)) (
  xval (s_ifeq (z := 7) (by decide +kernel) (by decide)) (
  xval (s_iconst (z := 1) (by decide +kernel) (by decide)) (
  xval (s_goto (z := 4) (by decide +kernel) (by decide)) (
  xval (s_iconst (z := 0) (by decide +kernel) (by decide)) (
  xval (s_callV (i := 196) c_M_emit (by decide +kernel) rfl (xtt_good tw_1020) rfl (tc tw_1017) (tc tw_1019) (tc ts_51) (tc tw_6) ⟨by decide, by decide, by decide +kernel⟩ ⟨by decide, by decide, rfl, rfl, by decide, by decide⟩ x0_e) (
  xval (s_aload_n (f := 0) (by decide +kernel) rfl) (
  xval (s_aload_n (f := 0) (by decide +kernel) rfl) (
  xval (s_getf (i := 24) (by decide +kernel) rfl tin_M (by decide) (tc tw_772)) (
  xval (s_iload_n (f := 1) (by decide +kernel) rfl) (
  xval (s_iaload (by decide +kernel)) (
  xval (s_callV (i := 196) c_M_emit (by decide +kernel) rfl (xtt_good tw_1020) rfl (tc tw_1017) (tc tw_1019) (tc ts_51) (tc tw_6) ⟨by decide, by decide, by decide +kernel⟩ ⟨by decide, by decide, rfl, rfl, by decide, by decide⟩ x0_e) (
  xval (s_iconst (z := 0) (by decide +kernel) (by decide)) (
  xval (s_istore_n (f := 2) (by decide +kernel) rfl (by decide)) (
  xval (s_iload_n (f := 2) (by decide +kernel) rfl) (
  xval (s_aload_n (f := 0) (by decide +kernel) rfl) (
  xval (s_getf (i := 24) (by decide +kernel) rfl tin_M (by decide) (tc tw_772)) (
  xval (s_iload_n (f := 1) (by decide +kernel) rfl) (
  xval (s_iaload (by decide +kernel)) (
  xval (s_icge (z := 60) (by decide +kernel) (by decide)) (
  xval (s_aload_n (f := 0) (by decide +kernel) rfl) (
  xval (s_aload_n (f := 0) (by decide +kernel) rfl) (
  xval (s_getf (i := 57) (by decide +kernel) rfl tin_M (by decide) (tc tw_787)) (
  xval (s_iconst (z := 2) (by decide +kernel) (by decide)) (
  xval (s_iconst (z := 2) (by decide +kernel) (by decide)) (
  xval (s_iload_n (f := 2) (by decide +kernel) rfl) (
  xval (s_imul (by decide +kernel)) (
  xval (s_iadd (by decide +kernel)) (
  xval (s_iaload (by decide +kernel)) (
  xval (s_callV (i := 196) c_M_emit (by decide +kernel) rfl (xtt_good tw_1020) rfl (tc tw_1017) (tc tw_1019) (tc ts_51) (tc tw_6) ⟨by decide, by decide, by decide +kernel⟩ ⟨by decide, by decide, rfl, rfl, by decide, by decide⟩ x0_e) (
  xval (s_aload_n (f := 0) (by decide +kernel) rfl) (
  xval (s_aload_n (f := 0) (by decide +kernel) rfl) (
  xval (s_getf (i := 57) (by decide +kernel) rfl tin_M (by decide) (tc tw_787)) (
  xval (s_iconst (z := 3) (by decide +kernel) (by decide)) (
  xval (s_iconst (z := 2) (by decide +kernel) (by decide)) (
  xval (s_iload_n (f := 2) (by decide +kernel) rfl) (
  xval (s_imul (by decide +kernel)) (
  xval (s_iadd (by decide +kernel)) (
  xval (s_iaload (by decide +kernel)) (
  xval (s_callV (i := 196) c_M_emit (by decide +kernel) rfl (xtt_good tw_1020) rfl (tc tw_1017) (tc tw_1019) (tc ts_51) (tc tw_6) ⟨by decide, by decide, by decide +kernel⟩ ⟨by decide, by decide, rfl, rfl, by decide, by decide⟩ x0_e) (
  xval (s_aload_n (f := 0) (by decide +kernel) rfl) (
  xval (s_aload_n (f := 0) (by decide +kernel) rfl) (
  xval (s_getf (i := 36) (by decide +kernel) rfl tin_M (by decide) (tc tw_776)) (
  xval (s_bipush (z := 8) (by decide +kernel) (by decide)) (
  xval (s_iload_n (f := 1) (by decide +kernel) rfl) (
  xval (s_imul (by decide +kernel)) (
  xval (s_iload_n (f := 2) (by decide +kernel) rfl) (
  xval (s_iadd (by decide +kernel)) (
  xval (s_baload (by decide +kernel)) (
  xval (s_ifeq (z := 7) (by decide +kernel) (by decide)) (
  xval (s_iconst (z := 1) (by decide +kernel) (by decide)) (
  xval (s_goto (z := 4) (by decide +kernel) (by decide)) (
  xval (s_iconst (z := 0) (by decide +kernel) (by decide)) (
  xval (s_callV (i := 196) c_M_emit (by decide +kernel) rfl (xtt_good tw_1020) rfl (tc tw_1017) (tc tw_1019) (tc ts_51) (tc tw_6) ⟨by decide, by decide, by decide +kernel⟩ ⟨by decide, by decide, rfl, rfl, by decide, by decide⟩ x0_e) (
  xval (s_iinc (z := 1) (by decide +kernel) (by decide) (by decide)) (
  xval (s_goto (z := (-64)) (by decide +kernel) (by decide)) (
  xval (s_vret (by decide +kernel)) (
  xval_nil))))))))))))))))))))))))))))))))))))))))))))))))))))))))))))))))))))))))))))))))))))))))))))))))))))))))))))))))))))))))))))))))))))))))))))))))))))))))))))))))))))))))))))))))))))))))))))))))))))
theorem c_M_make : xMet xCl y_M_make ws_M_make rm_M_make (xRun tb_M_make 4) := xMet.of (by decide) rfl v_M_make
def tb_M_write : xT := [(0, o_aload 0 1), (1, o_aload 0 1), (2, o_iload 1 1), (3, o_callV (xRun tb_M_isClass 2) 5 1 0 0), (6, o_if (fun a => a = 0) 13), (9, o_i 0 1), (10, o_goto 14), (13, o_i 1 1), (14, o_puti 5 0), (17, o_aload 0 1), (18, o_getf 5 0), (21, o_if (fun a => a ≤ 0) 26), (24, o_i 0 1), (25, o_iret), (26, o_aload 0 1), (27, o_iload 1 1), (28, o_callV (xRun tb_M_make 4) 5 1 0 0), (31, o_aload 0 1), (32, o_aload 0 1), (33, o_getf 5 15), (36, o_puti 5 13), (39, o_i 0 1), (40, o_istore 2 1), (41, o_iload 2 1), (42, o_aload 0 1), (43, o_getf 5 13), (46, o_ic (fun a b => b ≤ a) 67), (49, o_aload 0 1), (50, o_getf 5 12), (53, o_iload 2 1), (54, o_aload 0 1), (55, o_getf 5 14), (58, o_iload 2 1), (59, o_iaload), (60, o_iastore), (61, o_iinc 2 1), (64, o_goto 41), (67, o_aload 0 1), (68, o_getf 5 13), (71, o_iret)]
abbrev y_M_write : MethodName := ⟨"NameMoverModel", "write", "(I)I"⟩
abbrev rm_M_write : Room := { frames := 5, cells := 0, slots := 0, locals := 116 }
abbrev ws_M_write : List Cond := Cond.code y_M_write prog_11_method_49_code 3 (some .int) :: xtt
set_option maxRecDepth 100000 in
theorem v_M_write : ∀ q ∈ tb_M_write, xSd (0, 0) x0 xCl "NameMoverModel" ws_M_write prog_11_method_49_code 3 (some .int) rm_M_write q :=
  xval (s_aload_n (f := 0) (by decide +kernel) rfl) (
  xval (s_aload_n (f := 0) (by decide +kernel) rfl) (
  xval (s_iload_n (f := 1) (by decide +kernel) rfl) (
  xval (s_callV (i := 102) c_M_isClass (by decide +kernel) rfl (xtt_good tw_866) rfl (tc tw_863) (tc tw_865) (tc ts_28) (tc tw_6) ⟨by decide, by decide, by decide +kernel⟩ ⟨by decide, by decide, rfl, rfl, by decide, by decide⟩ x0_e) (
  xval (s_ifeq (z := 7) (by decide +kernel) (by decide)) (
  xval (s_iconst (z := 0) (by decide +kernel) (by decide)) (
  xval (s_goto (z := 4) (by decide +kernel) (by decide)) (
  xval (s_iconst (z := 1) (by decide +kernel) (by decide)) (
  xval (s_puti (i := 60) (by decide +kernel) rfl tin_M (by decide) (tc tw_766) tM tM_ok nM rfl (by decide +kernel)) (
  xval (s_aload_n (f := 0) (by decide +kernel) rfl) (
  xval (s_getf (i := 60) (by decide +kernel) rfl tin_M (by decide) (tc tw_766)) (
  xval (s_ifle (z := 5) (by decide +kernel) (by decide)) (
  xval (s_iconst (z := 0) (by decide +kernel) (by decide)) (
  xval (s_iret (by decide +kernel)) (
  xval (s_aload_n (f := 0) (by decide +kernel) rfl) (
  xval (s_iload_n (f := 1) (by decide +kernel) rfl) (
  xval (s_callV (i := 200) c_M_make (by decide +kernel) rfl (xtt_good tw_1000) rfl (tc tw_997) (tc tw_999) (tc ts_46) (tc tw_6) ⟨by decide, by decide, by decide +kernel⟩ ⟨by decide, by decide, rfl, rfl, by decide, by decide⟩ x0_e) (
  xval (s_aload_n (f := 0) (by decide +kernel) rfl) (
  xval (s_aload_n (f := 0) (by decide +kernel) rfl) (
  xval (s_getf (i := 187) (by decide +kernel) rfl tin_M (by decide) (tc tw_781)) (
  xval (s_puti (i := 203) (by decide +kernel) rfl tin_M (by decide) (tc tw_779) tM tM_ok nM rfl (by decide +kernel)) (
  xval (s_iconst (z := 0) (by decide +kernel) (by decide)) (
  xval (s_istore_n (f := 2) (by decide +kernel) rfl (by decide)) (
  xval (s_iload_n (f := 2) (by decide +kernel) rfl) (
  xval (s_aload_n (f := 0) (by decide +kernel) rfl) (
  xval (s_getf (i := 203) (by decide +kernel) rfl tin_M (by decide) (tc tw_779)) (
  xval (s_icge (z := 21) (by decide +kernel) (by decide)) (
  xval (s_aload_n (f := 0) (by decide +kernel) rfl) (
  xval (s_getf (i := 42) (by decide +kernel) rfl tin_M (by decide) (tc tw_778)) (
  xval (s_iload_n (f := 2) (by decide +kernel) rfl) (
  xval (s_aload_n (f := 0) (by decide +kernel) rfl) (
  xval (s_getf (i := 45) (by decide +kernel) rfl tin_M (by decide) (tc tw_780)) (
  xval (s_iload_n (f := 2) (by decide +kernel) rfl) (
  xval (s_iaload (by decide +kernel)) (
  xval (s_iastore (by decide +kernel)) (
  xval (s_iinc (z := 1) (by decide +kernel) (by decide) (by decide)) (
  xval (s_goto (z := (-23)) (by decide +kernel) (by decide)) (
  xval (s_aload_n (f := 0) (by decide +kernel) rfl) (
  xval (s_getf (i := 203) (by decide +kernel) rfl tin_M (by decide) (tc tw_779)) (
  xval (s_iret (by decide +kernel)) (
  xval_nil))))))))))))))))))))))))))))))))))))))))
theorem c_M_write : xMet xCl y_M_write ws_M_write rm_M_write (xRun tb_M_write 3) := xMet.of (by decide) rfl v_M_write
def tb_M_byteAt : xT := [(0, o_aload 0 1), (1, o_iload 1 1), (2, o_if (fun a => a < 0) 17), (5, o_iload 1 1), (6, o_aload 0 1), (7, o_getf 5 13), (10, o_ic (fun a b => b ≤ a) 17), (13, o_i 0 1), (14, o_goto 18), (17, o_i 1 1), (18, o_puti 5 0), (21, o_aload 0 1), (22, o_getf 5 0), (25, o_if (fun a => a ≤ 0) 32), (28, o_i 0 1), (29, o_goto 38), (32, o_aload 0 1), (33, o_getf 5 12), (36, o_iload 1 1), (37, o_iaload), (38, o_iret)]
abbrev y_M_byteAt : MethodName := ⟨"NameMoverModel", "byteAt", "(I)I"⟩
abbrev rm_M_byteAt : Room := { frames := 0, cells := 0, slots := 0, locals := 0 }
abbrev ws_M_byteAt : List Cond := Cond.code y_M_byteAt prog_11_method_50_code 2 (some .int) :: xtt
set_option maxRecDepth 100000 in
theorem v_M_byteAt : ∀ q ∈ tb_M_byteAt, xSd (0, 0) x0 xCl "NameMoverModel" ws_M_byteAt prog_11_method_50_code 2 (some .int) rm_M_byteAt q :=
  xval (s_aload_n (f := 0) (by decide +kernel) rfl) (
  xval (s_iload_n (f := 1) (by decide +kernel) rfl) (
  xval (s_iflt (z := 15) (by decide +kernel) (by decide)) (
  xval (s_iload_n (f := 1) (by decide +kernel) rfl) (
  xval (s_aload_n (f := 0) (by decide +kernel) rfl) (
  xval (s_getf (i := 203) (by decide +kernel) rfl tin_M (by decide) (tc tw_779)) (
  xval (s_icge (z := 7) (by decide +kernel) (by decide)) (
  xval (s_iconst (z := 0) (by decide +kernel) (by decide)) (
  xval (s_goto (z := 4) (by decide +kernel) (by decide)) (
  xval (s_iconst (z := 1) (by decide +kernel) (by decide)) (
  xval (s_puti (i := 60) (by decide +kernel) rfl tin_M (by decide) (tc tw_766) tM tM_ok nM rfl (by decide +kernel)) (
  xval (s_aload_n (f := 0) (by decide +kernel) rfl) (
  xval (s_getf (i := 60) (by decide +kernel) rfl tin_M (by decide) (tc tw_766)) (
  xval (s_ifle (z := 7) (by decide +kernel) (by decide)) (
  xval (s_iconst (z := 0) (by decide +kernel) (by decide)) (
  xval (s_goto (z := 9) (by decide +kernel) (by decide)) (
  xval (s_aload_n (f := 0) (by decide +kernel) rfl) (
  xval (s_getf (i := 42) (by decide +kernel) rfl tin_M (by decide) (tc tw_778)) (
  xval (s_iload_n (f := 1) (by decide +kernel) rfl) (
  xval (s_iaload (by decide +kernel)) (
  xval (s_iret (by decide +kernel)) (
  xval_nil)))))))))))))))))))))
theorem c_M_byteAt : xMet xCl y_M_byteAt ws_M_byteAt rm_M_byteAt (xRun tb_M_byteAt 2) := xMet.of (by decide) rfl v_M_byteAt
def tb_M_poke : xT := [(0, o_aload 0 1), (1, o_iload 1 1), (2, o_if (fun a => a < 0) 13), (5, o_iload 1 1), (6, o_aload 0 1), (7, o_getf 5 13), (10, o_ic (fun a b => a < b) 17), (13, o_i 1 1), (14, o_goto 33), (17, o_iload 2 1), (18, o_if (fun a => a < 0) 28), (21, o_iload 2 1), (22, o_i 255 3), (25, o_ic (fun a b => a ≤ b) 32), (28, o_i 2 1), (29, o_goto 33), (32, o_i 0 1), (33, o_puti 5 0), (36, o_aload 0 1), (37, o_getf 5 0), (40, o_ifn (fun a => a = 0) 50), (43, o_aload 0 1), (44, o_getf 5 12), (47, o_iload 1 1), (48, o_iload 2 1), (49, o_iastore), (50, o_vret)]
abbrev y_M_poke : MethodName := ⟨"NameMoverModel", "poke", "(II)V"⟩
abbrev rm_M_poke : Room := { frames := 0, cells := 0, slots := 0, locals := 0 }
abbrev ws_M_poke : List Cond := Cond.code y_M_poke prog_11_method_51_code 3 (none) :: xtt
set_option maxRecDepth 100000 in
theorem v_M_poke : ∀ q ∈ tb_M_poke, xSd (0, 0) x0 xCl "NameMoverModel" ws_M_poke prog_11_method_51_code 3 (none) rm_M_poke q :=
  xval (s_aload_n (f := 0) (by decide +kernel) rfl) (
  xval (s_iload_n (f := 1) (by decide +kernel) rfl) (
  xval (s_iflt (z := 11) (by decide +kernel) (by decide)) (
  xval (s_iload_n (f := 1) (by decide +kernel) rfl) (
  xval (s_aload_n (f := 0) (by decide +kernel) rfl) (
  xval (s_getf (i := 203) (by decide +kernel) rfl tin_M (by decide) (tc tw_779)) (
  xval (s_iclt (z := 7) (by decide +kernel) (by decide)) (
  xval (s_iconst (z := 1) (by decide +kernel) (by decide)) (
  xval (s_goto (z := 19) (by decide +kernel) (by decide)) (
  xval (s_iload_n (f := 2) (by decide +kernel) rfl) (
  xval (s_iflt (z := 10) (by decide +kernel) (by decide)) (
  xval (s_iload_n (f := 2) (by decide +kernel) rfl) (
  xval (s_sipush (z := 255) (by decide +kernel) (by decide)) (
  xval (s_icle (z := 7) (by decide +kernel) (by decide)) (
  xval (s_iconst (z := 2) (by decide +kernel) (by decide)) (
  xval (s_goto (z := 4) (by decide +kernel) (by decide)) (
  xval (s_iconst (z := 0) (by decide +kernel) (by decide)) (
  xval (s_puti (i := 60) (by decide +kernel) rfl tin_M (by decide) (tc tw_766) tM tM_ok nM rfl (by decide +kernel)) (
  xval (s_aload_n (f := 0) (by decide +kernel) rfl) (
  xval (s_getf (i := 60) (by decide +kernel) rfl tin_M (by decide) (tc tw_766)) (
  xval (s_ifne (z := 10) (by decide +kernel) (by decide)) (
  xval (s_aload_n (f := 0) (by decide +kernel) rfl) (
  xval (s_getf (i := 42) (by decide +kernel) rfl tin_M (by decide) (tc tw_778)) (
  xval (s_iload_n (f := 1) (by decide +kernel) rfl) (
  xval (s_iload_n (f := 2) (by decide +kernel) rfl) (
  xval (s_iastore (by decide +kernel)) (
  xval (s_vret (by decide +kernel)) (
  xval_nil)))))))))))))))))))))))))))
theorem c_M_poke : xMet xCl y_M_poke ws_M_poke rm_M_poke (xRun tb_M_poke 3) := xMet.of (by decide) rfl v_M_poke
def tb_M_next : xT := [(0, o_aload 0 1), (1, o_dup), (2, o_getf 5 22), (5, o_i 1 1), (6, o_ii (fun a b => a + b)), (7, o_puti 5 22), (10, o_aload 0 1), (11, o_getf 5 22), (14, o_aload 0 1), (15, o_getf 5 13), (18, o_ic (fun a b => b < a) 35), (21, o_aload 0 1), (22, o_getf 5 12), (25, o_aload 0 1), (26, o_getf 5 22), (29, o_i 1 1), (30, o_ii (fun a b => a - b)), (31, o_iaload), (32, o_goto 36), (35, o_i (-1) 1), (36, o_iret)]
abbrev y_M_next : MethodName := ⟨"NameMoverModel", "next", "()I"⟩
abbrev rm_M_next : Room := { frames := 0, cells := 0, slots := 0, locals := 0 }
abbrev ws_M_next : List Cond := Cond.code y_M_next prog_11_method_52_code 1 (some .int) :: xtt
set_option maxRecDepth 100000 in
theorem v_M_next : ∀ q ∈ tb_M_next, xSd (0, 0) x0 xCl "NameMoverModel" ws_M_next prog_11_method_52_code 1 (some .int) rm_M_next q :=
  xval (s_aload_n (f := 0) (by decide +kernel) rfl) (
  xval (s_dup (by decide +kernel)) (
  xval (s_getf (i := 92) (by decide +kernel) rfl tin_M (by decide) (tc tw_788)) (
  xval (s_iconst (z := 1) (by decide +kernel) (by decide)) (
  xval (s_iadd (by decide +kernel)) (
  xval (s_puti (i := 92) (by decide +kernel) rfl tin_M (by decide) (tc tw_788) tM tM_ok nM rfl (by decide +kernel)) (
  xval (s_aload_n (f := 0) (by decide +kernel) rfl) (
  xval (s_getf (i := 92) (by decide +kernel) rfl tin_M (by decide) (tc tw_788)) (
  xval (s_aload_n (f := 0) (by decide +kernel) rfl) (
  xval (s_getf (i := 203) (by decide +kernel) rfl tin_M (by decide) (tc tw_779)) (
  xval (s_icgt (z := 17) (by decide +kernel) (by decide)) (
  xval (s_aload_n (f := 0) (by decide +kernel) rfl) (
  xval (s_getf (i := 42) (by decide +kernel) rfl tin_M (by decide) (tc tw_778)) (
  xval (s_aload_n (f := 0) (by decide +kernel) rfl) (
  xval (s_getf (i := 92) (by decide +kernel) rfl tin_M (by decide) (tc tw_788)) (
  xval (s_iconst (z := 1) (by decide +kernel) (by decide)) (
  xval (s_isub (by decide +kernel)) (
  xval (s_iaload (by decide +kernel)) (
  xval (s_goto (z := 4) (by decide +kernel) (by decide)) (
  xval (s_iconst (z := (-1)) (by decide +kernel) (by decide)) (
  xval (s_iret (by decide +kernel)) (
  xval_nil)))))))))))))))))))))
theorem c_M_next : xMet xCl y_M_next ws_M_next rm_M_next (xRun tb_M_next 1) := xMet.of (by decide) rfl v_M_next
def tb_M_readPool : xT := [(0, o_aload 0 1), (1, o_i 0 1), (2, o_puti 5 22), (5, o_aload 0 1), (6, o_callV (xRun tb_M_next 1) 5 0 0 0), (9, o_i 202 3), (12, o_ic (fun a b => a = b) 17), (15, o_i 0 1), (16, o_zret), (17, o_aload 0 1), (18, o_callV (xRun tb_M_next 1) 5 0 0 0), (21, o_istore 1 1), (22, o_iload 1 1), (23, o_i 1 1), (24, o_ic (fun a b => a < b) 33), (27, o_iload 1 1), (28, o_i 14 2), (30, o_ic (fun a b => a ≤ b) 35), (33, o_i 0 1), (34, o_zret), (35, o_aload 0 1), (36, o_i 0 1), (37, o_puti 5 16), (40, o_aload 0 1), (41, o_getf 5 16), (44, o_iload 1 1), (45, o_ic (fun a b => b ≤ a) 133), (48, o_aload 0 1), (49, o_callV (xRun tb_M_next 1) 5 0 0 0), (52, o_istore 2 1), (53, o_iload 2 1), (54, o_i 1 1), (55, o_ic (fun a b => a < b) 77), (58, o_iload 2 1), (59, o_i 62 2), (61, o_ic (fun a b => b < a) 77), (64, o_aload 0 1), (65, o_getf 5 22), (68, o_iload 2 1), (69, o_ii (fun a b => a + b)), (70, o_aload 0 1), (71, o_getf 5 13), (74, o_ic (fun a b => a ≤ b) 79), (77, o_i 0 1), (78, o_zret), (79, o_i 0 1), (80, o_istore 3 1), (81, o_iload 3 1), (82, o_iload 2 1), (83, o_ic (fun a b => b ≤ a) 110), (86, o_aload 0 1), (87, o_getf 5 17), (90, o_i 64 2), (92, o_aload 0 1), (93, o_getf 5 16), (96, o_ii (fun a b => a * b)), (97, o_iload 3 1), (98, o_ii (fun a b => a + b)), (99, o_aload 0 1), (100, o_callV (xRun tb_M_next 1) 5 0 0 0), (103, o_iastore), (104, o_iinc 3 1), (107, o_goto 81), (110, o_aload 0 1), (111, o_getf 5 18), (114, o_aload 0 1), (115, o_getf 5 16), (118, o_iload 2 1), (119, o_iastore), (120, o_aload 0 1), (121, o_dup), (122, o_getf 5 16), (125, o_i 1 1), (126, o_ii (fun a b => a + b)), (127, o_puti 5 16), (130, o_goto 40), (133, o_i 1 1), (134, o_zret)]
abbrev y_M_readPool : MethodName := ⟨"NameMoverModel", "readPool", "()Z"⟩
abbrev rm_M_readPool : Room := { frames := 1, cells := 0, slots := 0, locals := 20 }
abbrev ws_M_readPool : List Cond := Cond.code y_M_readPool prog_11_method_53_code 4 (some .boolean) :: xtt
set_option maxRecDepth 100000 in
theorem v_M_readPool : ∀ q ∈ tb_M_readPool, xSd (0, 0) x0 xCl "NameMoverModel" ws_M_readPool prog_11_method_53_code 4 (some .boolean) rm_M_readPool q :=
  xval (s_aload_n (f := 0) (by decide +kernel) rfl) (
  xval (s_iconst (z := 0) (by decide +kernel) (by decide)) (
  xval (s_puti (i := 92) (by decide +kernel) rfl tin_M (by decide) (tc tw_788) tM tM_ok nM rfl (by decide +kernel)) (
  xval (s_aload_n (f := 0) (by decide +kernel) rfl) (
  xval (s_callV (i := 206) c_M_next (by decide +kernel) rfl (xtt_good tw_1044) rfl (tc tw_1041) (tc tw_1043) (tc ts_54) (tc tw_6) ⟨by decide, by decide, by decide +kernel⟩ ⟨by decide, by decide, rfl, rfl, by decide, by decide⟩ x0_e) (
  xval (s_sipush (z := 202) (by decide +kernel) (by decide)) (
  xval (s_iceq (z := 5) (by decide +kernel) (by decide)) (
  xval (s_iconst (z := 0) (by decide +kernel) (by decide)) (
  xval (s_zret (by decide +kernel)) (
  xval (s_aload_n (f := 0) (by decide +kernel) rfl) (
  xval (s_callV (i := 206) c_M_next (by decide +kernel) rfl (xtt_good tw_1044) rfl (tc tw_1041) (tc tw_1043) (tc ts_54) (tc tw_6) ⟨by decide, by decide, by decide +kernel⟩ ⟨by decide, by decide, rfl, rfl, by decide, by decide⟩ x0_e) (
  xval (s_istore_n (f := 1) (by decide +kernel) rfl (by decide)) (
  xval (s_iload_n (f := 1) (by decide +kernel) rfl) (
  xval (s_iconst (z := 1) (by decide +kernel) (by decide)) (
  xval (s_iclt (z := 9) (by decide +kernel) (by decide)) (
  xval (s_iload_n (f := 1) (by decide +kernel) rfl) (
  xval (s_bipush (z := 14) (by decide +kernel) (by decide)) (
  xval (s_icle (z := 5) (by decide +kernel) (by decide)) (
  xval (s_iconst (z := 0) (by decide +kernel) (by decide)) (
  xval (s_zret (by decide +kernel)) (
  xval (s_aload_n (f := 0) (by decide +kernel) rfl) (
  xval (s_iconst (z := 0) (by decide +kernel) (by decide)) (
  xval (s_puti (i := 174) (by decide +kernel) rfl tin_M (by decide) (tc tw_782) tM tM_ok nM rfl (by decide +kernel)) (
  xval (s_aload_n (f := 0) (by decide +kernel) rfl) (
  xval (s_getf (i := 174) (by decide +kernel) rfl tin_M (by decide) (tc tw_782)) (
  xval (s_iload_n (f := 1) (by decide +kernel) rfl) (
  xval (s_icge (z := 88) (by decide +kernel) (by decide)) (
  xval (s_aload_n (f := 0) (by decide +kernel) rfl) (
  xval (s_callV (i := 206) c_M_next (by decide +kernel) rfl (xtt_good tw_1044) rfl (tc tw_1041) (tc tw_1043) (tc ts_54) (tc tw_6) ⟨by decide, by decide, by decide +kernel⟩ ⟨by decide, by decide, rfl, rfl, by decide, by decide⟩ x0_e) (
  xval (s_istore_n (f := 2) (by decide +kernel) rfl (by decide)) (
  xval (s_iload_n (f := 2) (by decide +kernel) rfl) (
  xval (s_iconst (z := 1) (by decide +kernel) (by decide)) (
  xval (s_iclt (z := 22) (by decide +kernel) (by decide)) (
  xval (s_iload_n (f := 2) (by decide +kernel) rfl) (
  xval (s_bipush (z := 62) (by decide +kernel) (by decide)) (
  xval (s_icgt (z := 16) (by decide +kernel) (by decide)) (
  xval (s_aload_n (f := 0) (by decide +kernel) rfl) (
  xval (s_getf (i := 92) (by decide +kernel) rfl tin_M (by decide) (tc tw_788)) (
  xval (s_iload_n (f := 2) (by decide +kernel) rfl) (
  xval (s_iadd (by decide +kernel)) (
  xval (s_aload_n (f := 0) (by decide +kernel) rfl) (
  xval (s_getf (i := 203) (by decide +kernel) rfl tin_M (by decide) (tc tw_779)) (
  xval (s_icle (z := 5) (by decide +kernel) (by decide)) (
  xval (s_iconst (z := 0) (by decide +kernel) (by decide)) (
  xval (s_zret (by decide +kernel)) (
  xval (s_iconst (z := 0) (by decide +kernel) (by decide)) (
  xval (s_istore_n (f := 3) (by decide +kernel) rfl (by decide)) (
  xval (s_iload_n (f := 3) (by decide +kernel) rfl) (
  xval (s_iload_n (f := 2) (by decide +kernel) rfl) (
  xval (s_icge (z := 27) (by decide +kernel) (by decide)) (
  xval (s_aload_n (f := 0) (by decide +kernel) rfl) (
  xval (s_getf (i := 48) (by decide +kernel) rfl tin_M (by decide) (tc tw_783)) (
  xval (s_bipush (z := 64) (by decide +kernel) (by decide)) (
  xval (s_aload_n (f := 0) (by decide +kernel) rfl) (
  xval (s_getf (i := 174) (by decide +kernel) rfl tin_M (by decide) (tc tw_782)) (
  xval (s_imul (by decide +kernel)) (
  xval (s_iload_n (f := 3) (by decide +kernel) rfl) (
  xval (s_iadd (by decide +kernel)) (
  xval (s_aload_n (f := 0) (by decide +kernel) rfl) (
  xval (s_callV (i := 206) c_M_next (by decide +kernel) rfl (xtt_good tw_1044) rfl (tc tw_1041) (tc tw_1043) (tc ts_54) (tc tw_6) ⟨by decide, by decide, by decide +kernel⟩ ⟨by decide, by decide, rfl, rfl, by decide, by decide⟩ x0_e) (
  xval (s_iastore (by decide +kernel)) (
  xval (s_iinc (z := 1) (by decide +kernel) (by decide) (by decide)) (
  xval (s_goto (z := (-26)) (by decide +kernel) (by decide)) (
  xval (s_aload_n (f := 0) (by decide +kernel) rfl) (
  xval (s_getf (i := 51) (by decide +kernel) rfl tin_M (by decide) (tc tw_784)) (
  xval (s_aload_n (f := 0) (by decide +kernel) rfl) (
  xval (s_getf (i := 174) (by decide +kernel) rfl tin_M (by decide) (tc tw_782)) (
  xval (s_iload_n (f := 2) (by decide +kernel) rfl) (
  xval (s_iastore (by decide +kernel)) (
  xval (s_aload_n (f := 0) (by decide +kernel) rfl) (
  xval (s_dup (by decide +kernel)) (
  xval (s_getf (i := 174) (by decide +kernel) rfl tin_M (by decide) (tc tw_782)) (
  xval (s_iconst (z := 1) (by decide +kernel) (by decide)) (
  xval (s_iadd (by decide +kernel)) (
  xval (s_puti (i := 174) (by decide +kernel) rfl tin_M (by decide) (tc tw_782) tM tM_ok nM rfl (by decide +kernel)) (
  xval (s_goto (z := (-90)) (by decide +kernel) (by decide)) (
  xval (s_iconst (z := 1) (by decide +kernel) (by decide)) (
  xval (s_zret (by decide +kernel)) (
  xval_nil))))))))))))))))))))))))))))))))))))))))))))))))))))))))))))))))))))))))))))))
theorem c_M_readPool : xMet xCl y_M_readPool ws_M_readPool rm_M_readPool (xRun tb_M_readPool 4) := xMet.of (by decide) rfl v_M_readPool
