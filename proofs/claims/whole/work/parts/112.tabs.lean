def tb_M_textOf : xT := [(0, o_iload 1 1), (1, o_i 1 1), (2, o_ic (fun a b => a < b) 26), (5, o_iload 1 1), (6, o_aload 0 1), (7, o_getf 5 16), (10, o_ic (fun a b => b < a) 26), (13, o_aload 0 1), (14, o_getf 5 18), (17, o_iload 1 1), (18, o_i 1 1), (19, o_ii (fun a b => a - b)), (20, o_iaload), (21, o_i 8 2), (23, o_ic (fun a b => a ≤ b) 28), (26, o_l 0 1), (27, o_lret), (28, o_l 0 1), (29, o_lstore 2 1), (30, o_i 0 1), (31, o_istore 4 2), (33, o_iload 4 2), (35, o_aload 0 1), (36, o_getf 5 18), (39, o_iload 1 1), (40, o_i 1 1), (41, o_ii (fun a b => a - b)), (42, o_iaload), (43, o_ic (fun a b => b ≤ a) 77), (46, o_lload 2 1), (47, o_aload 0 1), (48, o_getf 5 17), (51, o_i 64 2), (53, o_iload 1 1), (54, o_ii (fun a b => a * b)), (55, o_i 64 2), (57, o_ii (fun a b => a - b)), (58, o_iload 4 2), (60, o_ii (fun a b => a + b)), (61, o_iaload), (62, o_i2l), (63, o_i 8 2), (65, o_iload 4 2), (67, o_ii (fun a b => a * b)), (68, o_li xshl), (69, o_ll (fun a b => a ||| b)), (70, o_lstore 2 1), (71, o_iinc 4 1), (74, o_goto 33), (77, o_lload 2 1), (78, o_lret)]
abbrev y_M_textOf : MethodName := ⟨"NameMoverModel", "textOf", "(I)J"⟩
abbrev rm_M_textOf : Room := { frames := 0, cells := 0, slots := 0, locals := 0 }
abbrev ws_M_textOf : List Cond := Cond.code y_M_textOf prog_11_method_54_code 5 (some .long) :: xtt
set_option maxRecDepth 100000 in
theorem v_M_textOf : ∀ q ∈ tb_M_textOf, xSd (0, 0) x0 xCl "NameMoverModel" ws_M_textOf prog_11_method_54_code 5 (some .long) rm_M_textOf q :=
  xval (s_iload_n (f := 1) (by decide +kernel) rfl) (
  xval (s_iconst (z := 1) (by decide +kernel) (by decide)) (
  xval (s_iclt (z := 24) (by decide +kernel) (by decide)) (
  xval (s_iload_n (f := 1) (by decide +kernel) rfl) (
  xval (s_aload_n (f := 0) (by decide +kernel) rfl) (
  xval (s_getf (i := 174) (by decide +kernel) rfl tin_M (by decide) (tc tw_782)) (
  xval (s_icgt (z := 16) (by decide +kernel) (by decide)) (
  xval (s_aload_n (f := 0) (by decide +kernel) rfl) (
  xval (s_getf (i := 51) (by decide +kernel) rfl tin_M (by decide) (tc tw_784)) (
  xval (s_iload_n (f := 1) (by decide +kernel) rfl) (
  xval (s_iconst (z := 1) (by decide +kernel) (by decide)) (
  xval (s_isub (by decide +kernel)) (
  xval (s_iaload (by decide +kernel)) (
  xval (s_bipush (z := 8) (by decide +kernel) (by decide)) (
  xval (s_icle (z := 5) (by decide +kernel) (by decide)) (
  xval (s_lconst (z := 0) (by decide +kernel) (by decide)) (
  xval (s_lret (by decide +kernel)) (
  xval (s_lconst (z := 0) (by decide +kernel) (by decide)) (
  xval (s_lstore_n (f := 2) (by decide +kernel) rfl (by decide)) (
  xval (s_iconst (z := 0) (by decide +kernel) (by decide)) (
  xval (s_istore (by decide +kernel) (by decide)) (
  xval (s_iload (by decide +kernel)) (
  xval (s_aload_n (f := 0) (by decide +kernel) rfl) (
  xval (s_getf (i := 51) (by decide +kernel) rfl tin_M (by decide) (tc tw_784)) (
  xval (s_iload_n (f := 1) (by decide +kernel) rfl) (
  xval (s_iconst (z := 1) (by decide +kernel) (by decide)) (
  xval (s_isub (by decide +kernel)) (
  xval (s_iaload (by decide +kernel)) (
  xval (s_icge (z := 34) (by decide +kernel) (by decide)) (
  xval (s_lload_n (f := 2) (by decide +kernel) rfl) (
  xval (s_aload_n (f := 0) (by decide +kernel) rfl) (
  xval (s_getf (i := 48) (by decide +kernel) rfl tin_M (by decide) (tc tw_783)) (
  xval (s_bipush (z := 64) (by decide +kernel) (by decide)) (
  xval (s_iload_n (f := 1) (by decide +kernel) rfl) (
  xval (s_imul (by decide +kernel)) (
  xval (s_bipush (z := 64) (by decide +kernel) (by decide)) (
  xval (s_isub (by decide +kernel)) (
  xval (s_iload (by decide +kernel)) (
  xval (s_iadd (by decide +kernel)) (
  xval (s_iaload (by decide +kernel)) (
  xval (s_i2l (by decide +kernel)) (
  xval (s_bipush (z := 8) (by decide +kernel) (by decide)) (
  xval (s_iload (by decide +kernel)) (
  xval (s_imul (by decide +kernel)) (
  xval (s_lshl (by decide +kernel)) (
  xval (s_lor (by decide +kernel)) (
  xval (s_lstore_n (f := 2) (by decide +kernel) rfl (by decide)) (
  xval (s_iinc (z := 1) (by decide +kernel) (by decide) (by decide)) (
  xval (s_goto (z := (-41)) (by decide +kernel) (by decide)) (
  xval (s_lload_n (f := 2) (by decide +kernel) rfl) (
  xval (s_lret (by decide +kernel)) (
  xval_nil)))))))))))))))))))))))))))))))))))))))))))))))))))
theorem c_M_textOf : xMet xCl y_M_textOf ws_M_textOf rm_M_textOf (xRun tb_M_textOf 5) := xMet.of (by decide) rfl v_M_textOf
def tb_M_written : xT := [(0, o_l 0 1), (1, o_lstore 3 1), (2, o_iload 2 1), (3, o_istore 5 2), (5, o_iload 5 2), (7, o_aload 0 1), (8, o_getf 5 18), (11, o_iload 1 1), (12, o_i 1 1), (13, o_ii (fun a b => a - b)), (14, o_iaload), (15, o_ic (fun a b => b ≤ a) 93), (18, o_iload 5 2), (20, o_iload 2 1), (21, o_i 9 2), (23, o_ii (fun a b => a + b)), (24, o_ic (fun a b => b ≤ a) 93), (27, o_aload 0 1), (28, o_getf 5 17), (31, o_i 64 2), (33, o_iload 1 1), (34, o_ii (fun a b => a * b)), (35, o_i 64 2), (37, o_ii (fun a b => a - b)), (38, o_iload 5 2), (40, o_ii (fun a b => a + b)), (41, o_iaload), (42, o_i 59 2), (44, o_ic (fun a b => a = b) 93), (47, o_iload 5 2), (49, o_iload 2 1), (50, o_i 8 2), (52, o_ii (fun a b => a + b)), (53, o_ic (fun a b => b ≤ a) 85), (56, o_lload 3 1), (57, o_aload 0 1), (58, o_getf 5 17), (61, o_i 64 2), (63, o_iload 1 1), (64, o_ii (fun a b => a * b)), (65, o_i 64 2), (67, o_ii (fun a b => a - b)), (68, o_iload 5 2), (70, o_ii (fun a b => a + b)), (71, o_iaload), (72, o_i2l), (73, o_i 8 2), (75, o_iload 5 2), (77, o_iload 2 1), (78, o_ii (fun a b => a - b)), (79, o_ii (fun a b => a * b)), (80, o_li xshl), (81, o_ll (fun a b => a ||| b)), (82, o_goto 86), (85, o_lload 3 1), (86, o_lstore 3 1), (87, o_iinc 5 1), (90, o_goto 5), (93, o_iload 5 2), (95, o_aload 0 1), (96, o_getf 5 18), (99, o_iload 1 1), (100, o_i 1 1), (101, o_ii (fun a b => a - b)), (102, o_iaload), (103, o_ic (fun a b => b ≤ a) 115), (106, o_iload 5 2), (108, o_iload 2 1), (109, o_i 8 2), (111, o_ii (fun a b => a + b)), (112, o_ic (fun a b => a ≤ b) 117), (115, o_i (-1) 1), (116, o_iret), (117, o_aload 0 1), (118, o_getf 5 2), (121, o_aload 0 1), (122, o_getf 5 1), (125, o_laload), (126, o_lload 3 1), (127, o_lcmp), (128, o_ifn (fun a => a = 0) 138), (131, o_aload 0 1), (132, o_getf 5 1), (135, o_goto 143), (138, o_aload 0 1), (139, o_lload 3 1), (140, o_callV (xRun tb_M_named 5) 5 1 0 0), (143, o_iret)]
abbrev y_M_written : MethodName := ⟨"NameMoverModel", "written", "(II)I"⟩
abbrev rm_M_written : Room := { frames := 1, cells := 0, slots := 0, locals := 24 }
abbrev ws_M_written : List Cond := Cond.code y_M_written prog_11_method_55_code 6 (some .int) :: xtt
set_option maxRecDepth 100000 in
theorem v_M_written : ∀ q ∈ tb_M_written, xSd (0, 0) x0 xCl "NameMoverModel" ws_M_written prog_11_method_55_code 6 (some .int) rm_M_written q :=
  xval (s_lconst (z := 0) (by decide +kernel) (by decide)) (
  xval (s_lstore_n (f := 3) (by decide +kernel) rfl (by decide)) (
  xval (s_iload_n (f := 2) (by decide +kernel) rfl) (
  xval (s_istore (by decide +kernel) (by decide)) (
  xval (s_iload (by decide +kernel)) (
  xval (s_aload_n (f := 0) (by decide +kernel) rfl) (
  xval (s_getf (i := 51) (by decide +kernel) rfl tin_M (by decide) (tc tw_784)) (
  xval (s_iload_n (f := 1) (by decide +kernel) rfl) (
  xval (s_iconst (z := 1) (by decide +kernel) (by decide)) (
  xval (s_isub (by decide +kernel)) (
  xval (s_iaload (by decide +kernel)) (
  xval (s_icge (z := 78) (by decide +kernel) (by decide)) (
  xval (s_iload (by decide +kernel)) (
  xval (s_iload_n (f := 2) (by decide +kernel) rfl) (
  xval (s_bipush (z := 9) (by decide +kernel) (by decide)) (
  xval (s_iadd (by decide +kernel)) (
  xval (s_icge (z := 69) (by decide +kernel) (by decide)) (
  xval (s_aload_n (f := 0) (by decide +kernel) rfl) (
  xval (s_getf (i := 48) (by decide +kernel) rfl tin_M (by decide) (tc tw_783)) (
  xval (s_bipush (z := 64) (by decide +kernel) (by decide)) (
  xval (s_iload_n (f := 1) (by decide +kernel) rfl) (
  xval (s_imul (by decide +kernel)) (
  xval (s_bipush (z := 64) (by decide +kernel) (by decide)) (
  xval (s_isub (by decide +kernel)) (
  xval (s_iload (by decide +kernel)) (
  xval (s_iadd (by decide +kernel)) (
  xval (s_iaload (by decide +kernel)) (
  xval (s_bipush (z := 59) (by decide +kernel) (by decide)) (
  xval (s_iceq (z := 49) (by decide +kernel) (by decide)) (
  xval (s_iload (by decide +kernel)) (
  xval (s_iload_n (f := 2) (by decide +kernel) rfl) (
  xval (s_bipush (z := 8) (by decide +kernel) (by decide)) (
  xval (s_iadd (by decide +kernel)) (
  xval (s_icge (z := 32) (by decide +kernel) (by decide)) (
  xval (s_lload_n (f := 3) (by decide +kernel) rfl) (
  xval (s_aload_n (f := 0) (by decide +kernel) rfl) (
  xval (s_getf (i := 48) (by decide +kernel) rfl tin_M (by decide) (tc tw_783)) (
  xval (s_bipush (z := 64) (by decide +kernel) (by decide)) (
  xval (s_iload_n (f := 1) (by decide +kernel) rfl) (
  xval (s_imul (by decide +kernel)) (
  xval (s_bipush (z := 64) (by decide +kernel) (by decide)) (
  xval (s_isub (by decide +kernel)) (
  xval (s_iload (by decide +kernel)) (
  xval (s_iadd (by decide +kernel)) (
  xval (s_iaload (by decide +kernel)) (
  xval (s_i2l (by decide +kernel)) (
  xval (s_bipush (z := 8) (by decide +kernel) (by decide)) (
  xval (s_iload (by decide +kernel)) (
  xval (s_iload_n (f := 2) (by decide +kernel) rfl) (
  xval (s_isub (by decide +kernel)) (
  xval (s_imul (by decide +kernel)) (
  xval (s_lshl (by decide +kernel)) (
  xval (s_lor (by decide +kernel)) (
  xval (s_goto (z := 4) (by decide +kernel) (by decide)) (
  xval (s_lload_n (f := 3) (by decide +kernel) rfl) (
  xval (s_lstore_n (f := 3) (by decide +kernel) rfl (by decide)) (
  xval (s_iinc (z := 1) (by decide +kernel) (by decide) (by decide)) (
  xval (s_goto (z := (-85)) (by decide +kernel) (by decide)) (
  xval (s_iload (by decide +kernel)) (
  xval (s_aload_n (f := 0) (by decide +kernel) rfl) (
  xval (s_getf (i := 51) (by decide +kernel) rfl tin_M (by decide) (tc tw_784)) (
  xval (s_iload_n (f := 1) (by decide +kernel) rfl) (
  xval (s_iconst (z := 1) (by decide +kernel) (by decide)) (
  xval (s_isub (by decide +kernel)) (
  xval (s_iaload (by decide +kernel)) (
  xval (s_icge (z := 12) (by decide +kernel) (by decide)) (
  xval (s_iload (by decide +kernel)) (
  xval (s_iload_n (f := 2) (by decide +kernel) rfl) (
  xval (s_bipush (z := 8) (by decide +kernel) (by decide)) (
  xval (s_iadd (by decide +kernel)) (
  xval (s_icle (z := 5) (by decide +kernel) (by decide)) (
  xval (s_iconst (z := (-1)) (by decide +kernel) (by decide)) (
  xval (s_iret (by decide +kernel)) (
  xval (s_aload_n (f := 0) (by decide +kernel) rfl) (
  xval (s_getf (i := 7) (by decide +kernel) rfl tin_M (by decide) (tc tw_768)) (
  xval (s_aload_n (f := 0) (by decide +kernel) rfl) (
  xval (s_getf (i := 99) (by decide +kernel) rfl tin_M (by decide) (tc tw_767)) (
  xval (s_laload (by decide +kernel)) (
  xval (s_lload_n (f := 3) (by decide +kernel) rfl) (
  xval (s_lcmp (by decide +kernel)) (
  xval (s_ifne (z := 10) (by decide +kernel) (by decide)) (
  xval (s_aload_n (f := 0) (by decide +kernel) rfl) (
  xval (s_getf (i := 99) (by decide +kernel) rfl tin_M (by decide) (tc tw_767)) (
  xval (s_goto (z := 8) (by decide +kernel) (by decide)) (
  xval (s_aload_n (f := 0) (by decide +kernel) rfl) (
  xval (s_lload_n (f := 3) (by decide +kernel) rfl) (
  xval (s_callV (i := 117) c_M_named (by decide +kernel) rfl (xtt_good tw_874) rfl (tc tw_871) (tc tw_873) (tc ts_30) (tc tw_6) ⟨by decide, by decide, by decide +kernel⟩ ⟨by decide, by decide, rfl, rfl, by decide, by decide⟩ x0_e) (
  xval (s_iret (by decide +kernel)) (
  xval_nil))))))))))))))))))))))))))))))))))))))))))))))))))))))))))))))))))))))))))))))))))))))))
theorem c_M_written : xMet xCl y_M_written ws_M_written rm_M_written (xRun tb_M_written 6) := xMet.of (by decide) rfl v_M_written
def tb_M_descriptorOf : xT := [(0, o_iload 1 1), (1, o_i 1 1), (2, o_ic (fun a b => a < b) 13), (5, o_iload 1 1), (6, o_aload 0 1), (7, o_getf 5 16), (10, o_ic (fun a b => a ≤ b) 15), (13, o_l 0 1), (14, o_lret), (15, o_l 0 1), (16, o_lstore 2 1), (17, o_i 0 1), (18, o_istore 4 2), (20, o_i 0 1), (21, o_istore 5 2), (23, o_iload 5 2), (25, o_aload 0 1), (26, o_getf 5 18), (29, o_iload 1 1), (30, o_i 1 1), (31, o_ii (fun a b => a - b)), (32, o_iaload), (33, o_ic (fun a b => b ≤ a) 151), (36, o_iload 4 2), (38, o_i 9 2), (40, o_ic (fun a b => b ≤ a) 151), (43, o_aload 0 1), (44, o_getf 5 17), (47, o_i 64 2), (49, o_iload 1 1), (50, o_ii (fun a b => a * b)), (51, o_i 64 2), (53, o_ii (fun a b => a - b)), (54, o_iload 5 2), (56, o_ii (fun a b => a + b)), (57, o_iaload), (58, o_istore 6 2), (60, o_iload 6 2), (62, o_istore 7 2), (64, o_iload 6 2), (66, o_call (xRun tb_M_isDigit 1) 1 0 0), (69, o_ifn (fun a => a = 0) 79), (72, o_iload 4 2), (74, o_i 8 2), (76, o_icn (fun a b => a = b) 81), (79, o_l 0 1), (80, o_lret), (81, o_iload 6 2), (83, o_i 76 2), (85, o_icn (fun a b => a = b) 130), (88, o_aload 0 1), (89, o_iload 1 1), (90, o_iload 5 2), (92, o_i 1 1), (93, o_ii (fun a b => a + b)), (94, o_callV (xRun tb_M_written 6) 5 2 0 0), (97, o_istore 8 2), (99, o_iload 8 2), (101, o_if (fun a => 0 ≤ a) 106), (104, o_l 0 1), (105, o_lret), (106, o_i 48 2), (108, o_iload 8 2), (110, o_ii (fun a b => a + b)), (111, o_istore 7 2), (113, o_iload 5 2), (115, o_i 1 1), (116, o_ii (fun a b => a + b)), (117, o_aload 0 1), (118, o_getf 5 2), (121, o_iload 8 2), (123, o_laload), (124, o_call (xRun tb_M_length 3) 1 0 0), (127, o_ii (fun a b => a + b)), (128, o_istore 5 2), (130, o_lload 2 1), (131, o_iload 7 2), (133, o_i2l), (134, o_i 8 2), (136, o_iload 4 2), (138, o_ii (fun a b => a * b)), (139, o_li xshl), (140, o_ll (fun a b => a ||| b)), (141, o_lstore 2 1), (142, o_iinc 4 1), (145, o_iinc 5 1), (148, o_goto 23), (151, o_lload 2 1), (152, o_lret)]
abbrev y_M_descriptorOf : MethodName := ⟨"NameMoverModel", "descriptorOf", "(I)J"⟩
abbrev rm_M_descriptorOf : Room := { frames := 2, cells := 0, slots := 0, locals := 49 }
abbrev ws_M_descriptorOf : List Cond := Cond.code y_M_descriptorOf prog_11_method_56_code 9 (some .long) :: xtt
set_option maxRecDepth 100000 in
theorem v_M_descriptorOf : ∀ q ∈ tb_M_descriptorOf, xSd (0, 0) x0 xCl "NameMoverModel" ws_M_descriptorOf prog_11_method_56_code 9 (some .long) rm_M_descriptorOf q :=
  xval (s_iload_n (f := 1) (by decide +kernel) rfl) (
  xval (s_iconst (z := 1) (by decide +kernel) (by decide)) (
  xval (s_iclt (z := 11) (by decide +kernel) (by decide)) (
  xval (s_iload_n (f := 1) (by decide +kernel) rfl) (
  xval (s_aload_n (f := 0) (by decide +kernel) rfl) (
  xval (s_getf (i := 174) (by decide +kernel) rfl tin_M (by decide) (tc tw_782)) (
  xval (s_icle (z := 5) (by decide +kernel) (by decide)) (
  xval (s_lconst (z := 0) (by decide +kernel) (by decide)) (
  xval (s_lret (by decide +kernel)) (
  xval (s_lconst (z := 0) (by decide +kernel) (by decide)) (
  xval (s_lstore_n (f := 2) (by decide +kernel) rfl (by decide)) (
  xval (s_iconst (z := 0) (by decide +kernel) (by decide)) (
  xval (s_istore (by decide +kernel) (by decide)) (
  xval (s_iconst (z := 0) (by decide +kernel) (by decide)) (
  xval (s_istore (by decide +kernel) (by decide)) (
  xval (s_iload (by decide +kernel)) (
  xval (s_aload_n (f := 0) (by decide +kernel) rfl) (
  xval (s_getf (i := 51) (by decide +kernel) rfl tin_M (by decide) (tc tw_784)) (
  xval (s_iload_n (f := 1) (by decide +kernel) rfl) (
  xval (s_iconst (z := 1) (by decide +kernel) (by decide)) (
  xval (s_isub (by decide +kernel)) (
  xval (s_iaload (by decide +kernel)) (
  xval (s_icge (z := 118) (by decide +kernel) (by decide)) (
  xval (s_iload (by decide +kernel)) (
  xval (s_bipush (z := 9) (by decide +kernel) (by decide)) (
  xval (s_icge (z := 111) (by decide +kernel) (by decide)) (
  xval (s_aload_n (f := 0) (by decide +kernel) rfl) (
  xval (s_getf (i := 48) (by decide +kernel) rfl tin_M (by decide) (tc tw_783)) (
  xval (s_bipush (z := 64) (by decide +kernel) (by decide)) (
  xval (s_iload_n (f := 1) (by decide +kernel) rfl) (
  xval (s_imul (by decide +kernel)) (
  xval (s_bipush (z := 64) (by decide +kernel) (by decide)) (
  xval (s_isub (by decide +kernel)) (
  xval (s_iload (by decide +kernel)) (
  xval (s_iadd (by decide +kernel)) (
  xval (s_iaload (by decide +kernel)) (
  xval (s_istore (by decide +kernel) (by decide)) (
  xval (s_iload (by decide +kernel)) (
  xval (s_istore (by decide +kernel) (by decide)) (
  xval (s_iload (by decide +kernel)) (
  xval (s_callS (i := 82) c_M_isDigit (by decide +kernel) rfl (xtt_good tw_862) (tc tw_860) (tc tw_861) (tc tw_6) ⟨by decide, by decide, by decide +kernel⟩ ⟨by decide, by decide, rfl, rfl, by decide, by decide⟩ x0_e) (
  xval (s_ifne (z := 10) (by decide +kernel) (by decide)) (
  xval (s_iload (by decide +kernel)) (
  xval (s_bipush (z := 8) (by decide +kernel) (by decide)) (
  xval (s_icne (z := 5) (by decide +kernel) (by decide)) (
  xval (s_lconst (z := 0) (by decide +kernel) (by decide)) (
  xval (s_lret (by decide +kernel)) (
  xval (s_iload (by decide +kernel)) (
  xval (s_bipush (z := 76) (by decide +kernel) (by decide)) (
  xval (s_icne (z := 45) (by decide +kernel) (by decide)) (
  xval (s_aload_n (f := 0) (by decide +kernel) rfl) (
  xval (s_iload_n (f := 1) (by decide +kernel) rfl) (
  xval (s_iload (by decide +kernel)) (
  xval (s_iconst (z := 1) (by decide +kernel) (by decide)) (
  xval (s_iadd (by decide +kernel)) (
  xval (s_callV (i := 209) c_M_written (by decide +kernel) rfl (xtt_good tw_1060) rfl (tc tw_1057) (tc tw_1059) (tc ts_58) (tc tw_6) ⟨by decide, by decide, by decide +kernel⟩ ⟨by decide, by decide, rfl, rfl, by decide, by decide⟩ x0_e) (
  xval (s_istore (by decide +kernel) (by decide)) (
  xval (s_iload (by decide +kernel)) (
  xval (s_ifge (z := 5) (by decide +kernel) (by decide)) (
  xval (s_lconst (z := 0) (by decide +kernel) (by decide)) (
  xval (s_lret (by decide +kernel)) (
  xval (s_bipush (z := 48) (by decide +kernel) (by decide)) (
  xval (s_iload (by decide +kernel)) (
  xval (s_iadd (by decide +kernel)) (
  xval (s_istore (by decide +kernel) (by decide)) (
  xval (s_iload (by decide +kernel)) (
  xval (s_iconst (z := 1) (by decide +kernel) (by decide)) (
  xval (s_iadd (by decide +kernel)) (
  xval (s_aload_n (f := 0) (by decide +kernel) rfl) (
  xval (s_getf (i := 7) (by decide +kernel) rfl tin_M (by decide) (tc tw_768)) (
  xval (s_iload (by decide +kernel)) (
  xval (s_laload (by decide +kernel)) (
  xval (s_callS (i := 70) c_M_length (by decide +kernel) rfl (xtt_good tw_849) (tc tw_847) (tc tw_848) (tc tw_6) ⟨by decide, by decide, by decide +kernel⟩ ⟨by decide, by decide, rfl, rfl, by decide, by decide⟩ x0_e) (
  xval (s_iadd (by decide +kernel)) (
  xval (s_istore (by decide +kernel) (by decide)) (
  xval (s_lload_n (f := 2) (by decide +kernel) rfl) (
  xval (s_iload (by decide +kernel)) (
  xval (s_i2l (by decide +kernel)) (
  xval (s_bipush (z := 8) (by decide +kernel) (by decide)) (
  xval (s_iload (by decide +kernel)) (
  xval (s_imul (by decide +kernel)) (
  xval (s_lshl (by decide +kernel)) (
  xval (s_lor (by decide +kernel)) (
  xval (s_lstore_n (f := 2) (by decide +kernel) rfl (by decide)) (
  xval (s_iinc (z := 1) (by decide +kernel) (by decide) (by decide)) (
  xval (s_iinc (z := 1) (by decide +kernel) (by decide) (by decide)) (
  xval (s_goto (z := (-125)) (by decide +kernel) (by decide)) (
  xval (s_lload_n (f := 2) (by decide +kernel) rfl) (
  xval (s_lret (by decide +kernel)) (
  xval_nil)))))))))))))))))))))))))))))))))))))))))))))))))))))))))))))))))))))))))))))))))))))))))
theorem c_M_descriptorOf : xMet xCl y_M_descriptorOf ws_M_descriptorOf rm_M_descriptorOf (xRun tb_M_descriptorOf 9) := xMet.of (by decide) rfl v_M_descriptorOf
def tb_M_isDescriptorOfFile : xT := [(0, o_aload 0 1), (1, o_getf 5 22), (4, o_istore 3 1), (5, o_aload 0 1), (6, o_lload 1 1), (7, o_aload 0 1), (8, o_getf 5 1), (11, o_i 1 1), (12, o_ii (fun a b => a + b)), (13, o_callV (xRun tb_M_isDescriptor 5) 5 2 0 0), (16, o_istore 4 2), (18, o_aload 0 1), (19, o_iload 3 1), (20, o_puti 5 22), (23, o_iload 4 2), (25, o_zret)]
abbrev y_M_isDescriptorOfFile : MethodName := ⟨"NameMoverModel", "isDescriptorOfFile", "(J)Z"⟩
abbrev rm_M_isDescriptorOfFile : Room := { frames := 4, cells := 0, slots := 0, locals := 92 }
abbrev ws_M_isDescriptorOfFile : List Cond := Cond.code y_M_isDescriptorOfFile prog_11_method_58_code 5 (some .boolean) :: xtt
set_option maxRecDepth 100000 in
theorem v_M_isDescriptorOfFile : ∀ q ∈ tb_M_isDescriptorOfFile, xSd (0, 0) x0 xCl "NameMoverModel" ws_M_isDescriptorOfFile prog_11_method_58_code 5 (some .boolean) rm_M_isDescriptorOfFile q :=
  xval (s_aload_n (f := 0) (by decide +kernel) rfl) (
  xval (s_getf (i := 92) (by decide +kernel) rfl tin_M (by decide) (tc tw_788)) (
  xval (s_istore_n (f := 3) (by decide +kernel) rfl (by decide)) (
  xval (s_aload_n (f := 0) (by decide +kernel) rfl) (
  xval (s_lload_n (f := 1) (by decide +kernel) rfl) (
  xval (s_aload_n (f := 0) (by decide +kernel) rfl) (
  xval (s_getf (i := 99) (by decide +kernel) rfl tin_M (by decide) (tc tw_767)) (
  xval (s_iconst (z := 1) (by decide +kernel) (by decide)) (
  xval (s_iadd (by decide +kernel)) (
  xval (s_callV (i := 124) c_M_isDescriptor (by decide +kernel) rfl (xtt_good tw_886) rfl (tc tw_883) (tc tw_885) (tc ts_32) (tc tw_6) ⟨by decide, by decide, by decide +kernel⟩ ⟨by decide, by decide, rfl, rfl, by decide, by decide⟩ x0_e) (
  xval (s_istore (by decide +kernel) (by decide)) (
  xval (s_aload_n (f := 0) (by decide +kernel) rfl) (
  xval (s_iload_n (f := 3) (by decide +kernel) rfl) (
  xval (s_puti (i := 92) (by decide +kernel) rfl tin_M (by decide) (tc tw_788) tM tM_ok nM rfl (by decide +kernel)) (
  xval (s_iload (by decide +kernel)) (
  xval (s_zret (by decide +kernel)) (
  xval_nil))))))))))))))))
theorem c_M_isDescriptorOfFile : xMet xCl y_M_isDescriptorOfFile ws_M_isDescriptorOfFile rm_M_isDescriptorOfFile (xRun tb_M_isDescriptorOfFile 5) := xMet.of (by decide) rfl v_M_isDescriptorOfFile
def tb_M_readMembers : xT := [(0, o_i 0 1), (1, o_istore 2 1), (2, o_iload 2 1), (3, o_iload 1 1), (4, o_ic (fun a b => b ≤ a) 104), (7, o_aload 0 1), (8, o_aload 0 1), (9, o_callV (xRun tb_M_next 1) 5 0 0 0), (12, o_callV (xRun tb_M_textOf 5) 5 1 0 0), (15, o_lstore 3 1), (16, o_aload 0 1), (17, o_aload 0 1), (18, o_callV (xRun tb_M_next 1) 5 0 0 0), (21, o_callV (xRun tb_M_descriptorOf 9) 5 1 0 0), (24, o_lstore 5 2), (26, o_aload 0 1), (27, o_callV (xRun tb_M_next 1) 5 0 0 0), (30, o_istore 7 2), (32, o_lload 3 1), (33, o_i 1 1), (34, o_call (xRun tb_M_isName 8) 2 0 0), (37, o_if (fun a => a = 0) 74), (40, o_aload 0 1), (41, o_lload 5 2), (43, o_callV (xRun tb_M_isDescriptorOfFile 5) 5 1 0 0), (46, o_if (fun a => a = 0) 74), (49, o_iload 7 2), (51, o_if (fun a => a < 0) 74), (54, o_iload 7 2), (56, o_i 1 1), (57, o_ic (fun a b => b < a) 74), (60, o_aload 0 1), (61, o_aload 0 1), (62, o_getf 5 1), (65, o_lload 3 1), (66, o_lload 5 2), (68, o_callV (xRun tb_M_has 8) 5 3 0 0), (71, o_if (fun a => a < 0) 76), (74, o_i 0 1), (75, o_zret), (76, o_aload 0 1), (77, o_aload 0 1), (78, o_getf 5 1), (81, o_lload 3 1), (82, o_lload 5 2), (84, o_iload 7 2), (86, o_i 1 1), (87, o_icn (fun a b => a = b) 94), (90, o_i 1 1), (91, o_goto 95), (94, o_i 0 1), (95, o_callV (xRun tb_M_putMember 8) 5 4 0 0), (98, o_iinc 2 1), (101, o_goto 2), (104, o_aload 0 1), (105, o_getf 5 22), (108, o_aload 0 1), (109, o_getf 5 13), (112, o_icn (fun a b => a = b) 119), (115, o_i 1 1), (116, o_goto 120), (119, o_i 0 1), (120, o_zret)]
abbrev y_M_readMembers : MethodName := ⟨"NameMoverModel", "readMembers", "(I)Z"⟩
abbrev rm_M_readMembers : Room := { frames := 5, cells := 0, slots := 0, locals := 116 }
abbrev ws_M_readMembers : List Cond := Cond.code y_M_readMembers prog_11_method_57_code 8 (some .boolean) :: xtt
set_option maxRecDepth 100000 in
theorem v_M_readMembers : ∀ q ∈ tb_M_readMembers, xSd (0, 0) x0 xCl "NameMoverModel" ws_M_readMembers prog_11_method_57_code 8 (some .boolean) rm_M_readMembers q :=
  xval (s_iconst (z := 0) (by decide +kernel) (by decide)) (
  xval (s_istore_n (f := 2) (by decide +kernel) rfl (by decide)) (
  xval (s_iload_n (f := 2) (by decide +kernel) rfl) (
  xval (s_iload_n (f := 1) (by decide +kernel) rfl) (
  xval (s_icge (z := 100) (by decide +kernel) (by decide)) (
  xval (s_aload_n (f := 0) (by decide +kernel) rfl) (
  xval (s_aload_n (f := 0) (by decide +kernel) rfl) (
  xval (s_callV (i := 206) c_M_next (by decide +kernel) rfl (xtt_good tw_1044) rfl (tc tw_1041) (tc tw_1043) (tc ts_54) (tc tw_6) ⟨by decide, by decide, by decide +kernel⟩ ⟨by decide, by decide, rfl, rfl, by decide, by decide⟩ x0_e) (
  xval (s_callV (i := 213) c_M_textOf (by decide +kernel) rfl (xtt_good tw_1048) rfl (tc tw_1045) (tc tw_1047) (tc ts_55) (tc tw_6) ⟨by decide, by decide, by decide +kernel⟩ ⟨by decide, by decide, rfl, rfl, by decide, by decide⟩ x0_e) (
  xval (s_lstore_n (f := 3) (by decide +kernel) rfl (by decide)) (
  xval (s_aload_n (f := 0) (by decide +kernel) rfl) (
  xval (s_aload_n (f := 0) (by decide +kernel) rfl) (
  xval (s_callV (i := 206) c_M_next (by decide +kernel) rfl (xtt_good tw_1044) rfl (tc tw_1041) (tc tw_1043) (tc ts_54) (tc tw_6) ⟨by decide, by decide, by decide +kernel⟩ ⟨by decide, by decide, rfl, rfl, by decide, by decide⟩ x0_e) (
  xval (s_callV (i := 217) c_M_descriptorOf (by decide +kernel) rfl (xtt_good tw_1056) rfl (tc tw_1053) (tc tw_1055) (tc ts_57) (tc tw_6) ⟨by decide, by decide, by decide +kernel⟩ ⟨by decide, by decide, rfl, rfl, by decide, by decide⟩ x0_e) (
  xval (s_lstore (by decide +kernel) (by decide)) (
  xval (s_aload_n (f := 0) (by decide +kernel) rfl) (
  xval (s_callV (i := 206) c_M_next (by decide +kernel) rfl (xtt_good tw_1044) rfl (tc tw_1041) (tc tw_1043) (tc ts_54) (tc tw_6) ⟨by decide, by decide, by decide +kernel⟩ ⟨by decide, by decide, rfl, rfl, by decide, by decide⟩ x0_e) (
  xval (s_istore (by decide +kernel) (by decide)) (
  xval (s_lload_n (f := 3) (by decide +kernel) rfl) (
  xval (s_iconst (z := 1) (by decide +kernel) (by decide)) (
  xval (s_callS (i := 109) c_M_isName (by decide +kernel) rfl (xtt_good tw_846) (tc tw_844) (tc tw_845) (tc tw_6) ⟨by decide, by decide, by decide +kernel⟩ ⟨by decide, by decide, rfl, rfl, by decide, by decide⟩ x0_e) (
  xval (s_ifeq (z := 37) (by decide +kernel) (by decide)) (
  xval (s_aload_n (f := 0) (by decide +kernel) rfl) (
  xval (s_lload (by decide +kernel)) (
  xval (s_callV (i := 220) c_M_isDescriptorOfFile (by decide +kernel) rfl (xtt_good tw_1064) rfl (tc tw_1061) (tc tw_1063) (tc ts_59) (tc tw_6) ⟨by decide, by decide, by decide +kernel⟩ ⟨by decide, by decide, rfl, rfl, by decide, by decide⟩ x0_e) (
  xval (s_ifeq (z := 28) (by decide +kernel) (by decide)) (
  xval (s_iload (by decide +kernel)) (
  xval (s_iflt (z := 23) (by decide +kernel) (by decide)) (
  xval (s_iload (by decide +kernel)) (
  xval (s_iconst (z := 1) (by decide +kernel) (by decide)) (
  xval (s_icgt (z := 17) (by decide +kernel) (by decide)) (
  xval (s_aload_n (f := 0) (by decide +kernel) rfl) (
  xval (s_aload_n (f := 0) (by decide +kernel) rfl) (
  xval (s_getf (i := 99) (by decide +kernel) rfl tin_M (by decide) (tc tw_767)) (
  xval (s_lload_n (f := 3) (by decide +kernel) rfl) (
  xval (s_lload (by decide +kernel)) (
  xval (s_callV (i := 127) c_M_has (by decide +kernel) rfl (xtt_good tw_894) rfl (tc tw_891) (tc tw_893) (tc ts_34) (tc tw_6) ⟨by decide, by decide, by decide +kernel⟩ ⟨by decide, by decide, rfl, rfl, by decide, by decide⟩ x0_e) (
  xval (s_iflt (z := 5) (by decide +kernel) (by decide)) (
  xval (s_iconst (z := 0) (by decide +kernel) (by decide)) (
  xval (s_zret (by decide +kernel)) (
  xval (s_aload_n (f := 0) (by decide +kernel) rfl) (
  xval (s_aload_n (f := 0) (by decide +kernel) rfl) (
  xval (s_getf (i := 99) (by decide +kernel) rfl tin_M (by decide) (tc tw_767)) (
  xval (s_lload_n (f := 3) (by decide +kernel) rfl) (
  xval (s_lload (by decide +kernel)) (
  xval (s_iload (by decide +kernel)) (
  xval (s_iconst (z := 1) (by decide +kernel) (by decide)) (
  xval (s_icne (z := 7) (by decide +kernel) (by decide)) (
  xval (s_iconst (z := 1) (by decide +kernel) (by decide)) (
  xval (s_goto (z := 4) (by decide +kernel) (by decide)) (
  xval (s_iconst (z := 0) (by decide +kernel) (by decide)) (
  xval (s_callV (i := 131) c_M_putMember (by decide +kernel) rfl (xtt_good tw_898) rfl (tc tw_895) (tc tw_897) (tc ts_35) (tc tw_6) ⟨by decide, by decide, by decide +kernel⟩ ⟨by decide, by decide, rfl, rfl, by decide, by decide⟩ x0_e) (
  xval (s_iinc (z := 1) (by decide +kernel) (by decide) (by decide)) (
  xval (s_goto (z := (-99)) (by decide +kernel) (by decide)) (
  xval (s_aload_n (f := 0) (by decide +kernel) rfl) (
  xval (s_getf (i := 92) (by decide +kernel) rfl tin_M (by decide) (tc tw_788)) (
  xval (s_aload_n (f := 0) (by decide +kernel) rfl) (
  xval (s_getf (i := 203) (by decide +kernel) rfl tin_M (by decide) (tc tw_779)) (
  xval (s_icne (z := 7) (by decide +kernel) (by decide)) (
  xval (s_iconst (z := 1) (by decide +kernel) (by decide)) (
  xval (s_goto (z := 4) (by decide +kernel) (by decide)) (
  xval (s_iconst (z := 0) (by decide +kernel) (by decide)) (
  xval (s_zret (by decide +kernel)) (
  xval_nil)))))))))))))))))))))))))))))))))))))))))))))))))))))))))))))))
theorem c_M_readMembers : xMet xCl y_M_readMembers ws_M_readMembers rm_M_readMembers (xRun tb_M_readMembers 8) := xMet.of (by decide) rfl v_M_readMembers
def tb_M_readClass : xT := [(0, o_aload 0 1), (1, o_callV (xRun tb_M_readPool 4) 5 0 0 0), (4, o_ifn (fun a => a = 0) 9), (7, o_i 0 1), (8, o_zret), (9, o_aload 0 1), (10, o_aload 0 1), (11, o_callV (xRun tb_M_next 1) 5 0 0 0), (14, o_callV (xRun tb_M_textOf 5) 5 1 0 0), (17, o_lstore 1 1), (18, o_aload 0 1), (19, o_callV (xRun tb_M_next 1) 5 0 0 0), (22, o_istore 3 1), (23, o_aload 0 1), (24, o_callV (xRun tb_M_next 1) 5 0 0 0), (27, o_istore 4 2), (29, o_aload 0 1), (30, o_callV (xRun tb_M_next 1) 5 0 0 0), (33, o_istore 5 2), (35, o_iload 3 1), (36, o_ifn (fun a => a = 0) 43), (39, o_i (-1) 1), (40, o_goto 52), (43, o_aload 0 1), (44, o_aload 0 1), (45, o_iload 3 1), (46, o_callV (xRun tb_M_textOf 5) 5 1 0 0), (49, o_callV (xRun tb_M_named 5) 5 1 0 0), (52, o_istore 6 2), (54, o_lload 1 1), (55, o_i 0 1), (56, o_call (xRun tb_M_isName 8) 2 0 0), (59, o_if (fun a => a = 0) 106), (62, o_aload 0 1), (63, o_lload 1 1), (64, o_callV (xRun tb_M_named 5) 5 1 0 0), (67, o_if (fun a => 0 ≤ a) 106), (70, o_iload 3 1), (71, o_if (fun a => a = 0) 79), (74, o_iload 6 2), (76, o_if (fun a => a < 0) 106), (79, o_iload 4 2), (81, o_if (fun a => a < 0) 106), (84, o_iload 4 2), (86, o_i 1 1), (87, o_ic (fun a b => b < a) 106), (90, o_iload 5 2), (92, o_if (fun a => a < 0) 106), (95, o_iload 5 2), (97, o_i 6 2), (99, o_ic (fun a b => b < a) 106), (102, o_i 1 1), (103, o_goto 107), (106, o_i 0 1), (107, o_istore 7 2), (109, o_iload 7 2), (111, o_ifn (fun a => a = 0) 116), (114, o_i 0 1), (115, o_zret), (116, o_aload 0 1), (117, o_lload 1 1), (118, o_iload 6 2), (120, o_iload 4 2), (122, o_i 1 1), (123, o_icn (fun a b => a = b) 130), (126, o_i 1 1), (127, o_goto 131), (130, o_i 0 1), (131, o_callV (xRun tb_M_put 5) 5 3 0 0), (134, o_aload 0 1), (135, o_iload 5 2), (137, o_callV (xRun tb_M_readMembers 8) 5 1 0 0), (140, o_zret)]
abbrev y_M_readClass : MethodName := ⟨"NameMoverModel", "readClass", "()Z"⟩
abbrev rm_M_readClass : Room := { frames := 6, cells := 0, slots := 0, locals := 143 }
abbrev ws_M_readClass : List Cond := Cond.code y_M_readClass prog_11_method_59_code 8 (some .boolean) :: xtt
set_option maxRecDepth 100000 in
theorem v_M_readClass : ∀ q ∈ tb_M_readClass, xSd (0, 0) x0 xCl "NameMoverModel" ws_M_readClass prog_11_method_59_code 8 (some .boolean) rm_M_readClass q :=
  xval (s_aload_n (f := 0) (by decide +kernel) rfl) (
  xval (s_callV (i := 223) c_M_readPool (by decide +kernel) rfl (xtt_good tw_1040) rfl (tc tw_1037) (tc tw_1039) (tc ts_53) (tc tw_6) ⟨by decide, by decide, by decide +kernel⟩ ⟨by decide, by decide, rfl, rfl, by decide, by decide⟩ x0_e) (
  xval (s_ifne (z := 5) (by decide +kernel) (by decide)) (
  xval (s_iconst (z := 0) (by decide +kernel) (by decide)) (
  xval (s_zret (by decide +kernel)) (
  xval (s_aload_n (f := 0) (by decide +kernel) rfl) (
  xval (s_aload_n (f := 0) (by decide +kernel) rfl) (
  xval (s_callV (i := 206) c_M_next (by decide +kernel) rfl (xtt_good tw_1044) rfl (tc tw_1041) (tc tw_1043) (tc ts_54) (tc tw_6) ⟨by decide, by decide, by decide +kernel⟩ ⟨by decide, by decide, rfl, rfl, by decide, by decide⟩ x0_e) (
  xval (s_callV (i := 213) c_M_textOf (by decide +kernel) rfl (xtt_good tw_1048) rfl (tc tw_1045) (tc tw_1047) (tc ts_55) (tc tw_6) ⟨by decide, by decide, by decide +kernel⟩ ⟨by decide, by decide, rfl, rfl, by decide, by decide⟩ x0_e) (
  xval (s_lstore_n (f := 1) (by decide +kernel) rfl (by decide)) (
  xval (s_aload_n (f := 0) (by decide +kernel) rfl) (
  xval (s_callV (i := 206) c_M_next (by decide +kernel) rfl (xtt_good tw_1044) rfl (tc tw_1041) (tc tw_1043) (tc ts_54) (tc tw_6) ⟨by decide, by decide, by decide +kernel⟩ ⟨by decide, by decide, rfl, rfl, by decide, by decide⟩ x0_e) (
  xval (s_istore_n (f := 3) (by decide +kernel) rfl (by decide)) (
  xval (s_aload_n (f := 0) (by decide +kernel) rfl) (
  xval (s_callV (i := 206) c_M_next (by decide +kernel) rfl (xtt_good tw_1044) rfl (tc tw_1041) (tc tw_1043) (tc ts_54) (tc tw_6) ⟨by decide, by decide, by decide +kernel⟩ ⟨by decide, by decide, rfl, rfl, by decide, by decide⟩ x0_e) (
  xval (s_istore (by decide +kernel) (by decide)) (
  xval (s_aload_n (f := 0) (by decide +kernel) rfl) (
  xval (s_callV (i := 206) c_M_next (by decide +kernel) rfl (xtt_good tw_1044) rfl (tc tw_1041) (tc tw_1043) (tc ts_54) (tc tw_6) ⟨by decide, by decide, by decide +kernel⟩ ⟨by decide, by decide, rfl, rfl, by decide, by decide⟩ x0_e) (
  xval (s_istore (by decide +kernel) (by decide)) (
  xval (s_iload_n (f := 3) (by decide +kernel) rfl) (
  xval (s_ifne (z := 7) (by decide +kernel) (by decide)) (
  xval (s_iconst (z := (-1)) (by decide +kernel) (by decide)) (
  xval (s_goto (z := 12) (by decide +kernel) (by decide)) (
  xval (s_aload_n (f := 0) (by decide +kernel) rfl) (
  xval (s_aload_n (f := 0) (by decide +kernel) rfl) (
  xval (s_iload_n (f := 3) (by decide +kernel) rfl) (
  xval (s_callV (i := 213) c_M_textOf (by decide +kernel) rfl (xtt_good tw_1048) rfl (tc tw_1045) (tc tw_1047) (tc ts_55) (tc tw_6) ⟨by decide, by decide, by decide +kernel⟩ ⟨by decide, by decide, rfl, rfl, by decide, by decide⟩ x0_e) (
  xval (s_callV (i := 117) c_M_named (by decide +kernel) rfl (xtt_good tw_874) rfl (tc tw_871) (tc tw_873) (tc ts_30) (tc tw_6) ⟨by decide, by decide, by decide +kernel⟩ ⟨by decide, by decide, rfl, rfl, by decide, by decide⟩ x0_e) (
  xval (s_istore (by decide +kernel) (by decide)) (
  xval (s_lload_n (f := 1) (by decide +kernel) rfl) (
  xval (s_iconst (z := 0) (by decide +kernel) (by decide)) (
  xval (s_callS (i := 109) c_M_isName (by decide +kernel) rfl (xtt_good tw_846) (tc tw_844) (tc tw_845) (tc tw_6) ⟨by decide, by decide, by decide +kernel⟩ ⟨by decide, by decide, rfl, rfl, by decide, by decide⟩ x0_e) (
  xval (s_ifeq (z := 47) (by decide +kernel) (by decide)) (
  xval (s_aload_n (f := 0) (by decide +kernel) rfl) (
  xval (s_lload_n (f := 1) (by decide +kernel) rfl) (
  xval (s_callV (i := 117) c_M_named (by decide +kernel) rfl (xtt_good tw_874) rfl (tc tw_871) (tc tw_873) (tc ts_30) (tc tw_6) ⟨by decide, by decide, by decide +kernel⟩ ⟨by decide, by decide, rfl, rfl, by decide, by decide⟩ x0_e) (
  xval (s_ifge (z := 39) (by decide +kernel) (by decide)) (
  xval (s_iload_n (f := 3) (by decide +kernel) rfl) (
  xval (s_ifeq (z := 8) (by decide +kernel) (by decide)) (
  xval (s_iload (by decide +kernel)) (
  xval (s_iflt (z := 30) (by decide +kernel) (by decide)) (
  xval (s_iload (by decide +kernel)) (
  xval (s_iflt (z := 25) (by decide +kernel) (by decide)) (
  xval (s_iload (by decide +kernel)) (
  xval (s_iconst (z := 1) (by decide +kernel) (by decide)) (
  xval (s_icgt (z := 19) (by decide +kernel) (by decide)) (
  xval (s_iload (by decide +kernel)) (
  xval (s_iflt (z := 14) (by decide +kernel) (by decide)) (
  xval (s_iload (by decide +kernel)) (
  xval (s_bipush (z := 6) (by decide +kernel) (by decide)) (
  xval (s_icgt (z := 7) (by decide +kernel) (by decide)) (
  xval (s_iconst (z := 1) (by decide +kernel) (by decide)) (
  xval (s_goto (z := 4) (by decide +kernel) (by decide)) (
  xval (s_iconst (z := 0) (by decide +kernel) (by decide)) (
  xval (s_istore (by decide +kernel) (by decide)) (
  xval (s_iload (by decide +kernel)) (
  xval (s_ifne (z := 5) (by decide +kernel) (by decide)) (
  xval (s_iconst (z := 0) (by decide +kernel) (by decide)) (
  xval (s_zret (by decide +kernel)) (
  xval (s_aload_n (f := 0) (by decide +kernel) rfl) (
  xval (s_lload_n (f := 1) (by decide +kernel) rfl) (
  xval (s_iload (by decide +kernel)) (
  xval (s_iload (by decide +kernel)) (
  xval (s_iconst (z := 1) (by decide +kernel) (by decide)) (
  xval (s_icne (z := 7) (by decide +kernel) (by decide)) (
  xval (s_iconst (z := 1) (by decide +kernel) (by decide)) (
  xval (s_goto (z := 4) (by decide +kernel) (by decide)) (
  xval (s_iconst (z := 0) (by decide +kernel) (by decide)) (
  xval (s_callV (i := 120) c_M_put (by decide +kernel) rfl (xtt_good tw_878) rfl (tc tw_875) (tc tw_877) (tc ts_31) (tc tw_6) ⟨by decide, by decide, by decide +kernel⟩ ⟨by decide, by decide, rfl, rfl, by decide, by decide⟩ x0_e) (
  xval (s_aload_n (f := 0) (by decide +kernel) rfl) (
  xval (s_iload (by decide +kernel)) (
  xval (s_callV (i := 227) c_M_readMembers (by decide +kernel) rfl (xtt_good tw_1052) rfl (tc tw_1049) (tc tw_1051) (tc ts_56) (tc tw_6) ⟨by decide, by decide, by decide +kernel⟩ ⟨by decide, by decide, rfl, rfl, by decide, by decide⟩ x0_e) (
  xval (s_zret (by decide +kernel)) (
  xval_nil)))))))))))))))))))))))))))))))))))))))))))))))))))))))))))))))))))))))))
theorem c_M_readClass : xMet xCl y_M_readClass ws_M_readClass rm_M_readClass (xRun tb_M_readClass 8) := xMet.of (by decide) rfl v_M_readClass
