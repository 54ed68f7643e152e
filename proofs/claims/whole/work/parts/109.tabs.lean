def tb_M_family : xT := [(0, o_i 0 1), (1, o_istore 2 1), (2, o_iload 2 1), (3, o_i 64 2), (5, o_ic (fun a b => b ≤ a) 30), (8, o_aload 0 1), (9, o_getf 5 11), (12, o_iload 2 1), (13, o_iload 2 1), (14, o_iload 1 1), (15, o_icn (fun a b => a = b) 22), (18, o_i 1 1), (19, o_goto 23), (22, o_i 0 1), (23, o_bastore), (24, o_iinc 2 1), (27, o_goto 2), (30, o_i 1 1), (31, o_istore 2 1), (32, o_i 1 1), (33, o_istore 3 1), (34, o_iload 3 1), (35, o_if (fun a => a = 0) 161), (38, o_i 0 1), (39, o_istore 3 1), (40, o_i 0 1), (41, o_istore 4 2), (43, o_iload 4 2), (45, o_i 64 2), (47, o_ic (fun a b => b ≤ a) 158), (50, o_i 0 1), (51, o_istore 5 2), (53, o_iload 5 2), (55, o_i 64 2), (57, o_ic (fun a b => b ≤ a) 152), (60, o_aload 0 1), (61, o_getf 5 11), (64, o_iload 4 2), (66, o_baload), (67, o_if (fun a => a = 0) 152), (70, o_iload 5 2), (72, o_i 8 2), (74, o_dr (fun a b => a / b)), (75, o_aload 0 1), (76, o_getf 5 1), (79, o_ic (fun a b => b ≤ a) 104), (82, o_iload 5 2), (84, o_i 8 2), (86, o_dr (fun a b => a - a / b * b)), (87, o_aload 0 1), (88, o_getf 5 6), (91, o_iload 5 2), (93, o_i 8 2), (95, o_dr (fun a b => a / b)), (96, o_iaload), (97, o_ic (fun a b => b ≤ a) 104), (100, o_i 1 1), (101, o_goto 105), (104, o_i 0 1), (105, o_istore 6 2), (107, o_iload 6 2), (109, o_if (fun a => a = 0) 146), (112, o_aload 0 1), (113, o_getf 5 11), (116, o_iload 5 2), (118, o_baload), (119, o_ifn (fun a => a = 0) 146), (122, o_aload 0 1), (123, o_iload 4 2), (125, o_iload 5 2), (127, o_callV (xRun tb_M_override 4) 5 2 0 0), (130, o_if (fun a => a = 0) 146), (133, o_aload 0 1), (134, o_getf 5 11), (137, o_iload 5 2), (139, o_i 1 1), (140, o_bastore), (141, o_iinc 2 1), (144, o_i 1 1), (145, o_istore 3 1), (146, o_iinc 5 1), (149, o_goto 53), (152, o_iinc 4 1), (155, o_goto 43), (158, o_goto 34), (161, o_iload 2 1), (162, o_iret)]
abbrev y_M_family : MethodName := ⟨"NameMoverModel", "family", "(I)I"⟩
abbrev rm_M_family : Room := { frames := 3, cells := 0, slots := 0, locals := 68 }
abbrev ws_M_family : List Cond := Cond.code y_M_family prog_11_method_30_code 7 (some .int) :: xtt
set_option maxRecDepth 100000 in
theorem v_M_family : ∀ q ∈ tb_M_family, xSd (0, 0) x0 xCl "NameMoverModel" ws_M_family prog_11_method_30_code 7 (some .int) rm_M_family q :=
  xval (s_iconst (z := 0) (by decide +kernel) (by decide)) (
  xval (s_istore_n (f := 2) (by decide +kernel) rfl (by decide)) (
  xval (s_iload_n (f := 2) (by decide +kernel) rfl) (
  xval (s_bipush (z := 64) (by decide +kernel) (by decide)) (
  xval (s_icge (z := 25) (by decide +kernel) (by decide)) (
  xval (s_aload_n (f := 0) (by decide +kernel) rfl) (
  xval (s_getf (i := 39) (by decide +kernel) rfl tin_M (by decide) (tc tw_777)) (
  xval (s_iload_n (f := 2) (by decide +kernel) rfl) (
  xval (s_iload_n (f := 2) (by decide +kernel) rfl) (
  xval (s_iload_n (f := 1) (by decide +kernel) rfl) (
  xval (s_icne (z := 7) (by decide +kernel) (by decide)) (
  xval (s_iconst (z := 1) (by decide +kernel) (by decide)) (
  xval (s_goto (z := 4) (by decide +kernel) (by decide)) (
  xval (s_iconst (z := 0) (by decide +kernel) (by decide)) (
  xval (s_bastore (by decide +kernel)) (
  xval (s_iinc (z := 1) (by decide +kernel) (by decide) (by decide)) (
  xval (s_goto (z := (-25)) (by decide +kernel) (by decide)) (
  xval (s_iconst (z := 1) (by decide +kernel) (by decide)) (
  xval (s_istore_n (f := 2) (by decide +kernel) rfl (by decide)) (
  xval (s_iconst (z := 1) (by decide +kernel) (by decide)) (
  xval (s_istore_n (f := 3) (by decide +kernel) rfl (by decide)) (
  xval (s_iload_n (f := 3) (by decide +kernel) rfl) (
  xval (s_ifeq (z := 126) (by decide +kernel) (by decide)) (
  xval (s_iconst (z := 0) (by decide +kernel) (by decide)) (
  xval (s_istore_n (f := 3) (by decide +kernel) rfl (by decide)) (
  xval (s_iconst (z := 0) (by decide +kernel) (by decide)) (
  xval (s_istore (by decide +kernel) (by decide)) (
  xval (s_iload (by decide +kernel)) (
  xval (s_bipush (z := 64) (by decide +kernel) (by decide)) (
  xval (s_icge (z := 111) (by decide +kernel) (by decide)) (
  xval (s_iconst (z := 0) (by decide +kernel) (by decide)) (
  xval (s_istore (by decide +kernel) (by decide)) (
  xval (s_iload (by decide +kernel)) (
  xval (s_bipush (z := 64) (by decide +kernel) (by decide)) (
  xval (s_icge (z := 95) (by decide +kernel) (by decide)) (
  xval (s_aload_n (f := 0) (by decide +kernel) rfl) (
  xval (s_getf (i := 39) (by decide +kernel) rfl tin_M (by decide) (tc tw_777)) (
  xval (s_iload (by decide +kernel)) (
  xval (s_baload (by decide +kernel)) (
  xval (s_ifeq (z := 85) (by decide +kernel) (by decide)) (
  xval (s_iload (by decide +kernel)) (
  xval (s_bipush (z := 8) (by decide +kernel) (by decide)) (
  xval (s_idiv (by decide +kernel)) (
  xval (s_aload_n (f := 0) (by decide +kernel) rfl) (
  xval (s_getf (i := 99) (by decide +kernel) rfl tin_M (by decide) (tc tw_767)) (
  xval (s_icge (z := 25) (by decide +kernel) (by decide)) (
  xval (s_iload (by decide +kernel)) (
  xval (s_bipush (z := 8) (by decide +kernel) (by decide)) (
  xval (s_irem (by decide +kernel)) (
  xval (s_aload_n (f := 0) (by decide +kernel) rfl) (
  xval (s_getf (i := 24) (by decide +kernel) rfl tin_M (by decide) (tc tw_772)) (
  xval (s_iload (by decide +kernel)) (
  xval (s_bipush (z := 8) (by decide +kernel) (by decide)) (
  xval (s_idiv (by decide +kernel)) (
  xval (s_iaload (by decide +kernel)) (
  xval (s_icge (z := 7) (by decide +kernel) (by decide)) (
  xval (s_iconst (z := 1) (by decide +kernel) (by decide)) (
  xval (s_goto (z := 4) (by decide +kernel) (by decide)) (
  xval (s_iconst (z := 0) (by decide +kernel) (by decide)) (
  xval (s_istore (by decide +kernel) (by decide)) (
  xval (s_iload (by decide +kernel)) (
  xval (s_ifeq (z := 37) (by decide +kernel) (by decide)) (
  xval (s_aload_n (f := 0) (by decide +kernel) rfl) (
  xval (s_getf (i := 39) (by decide +kernel) rfl tin_M (by decide) (tc tw_777)) (
  xval (s_iload (by decide +kernel)) (
  xval (s_baload (by decide +kernel)) (
  xval (s_ifne (z := 27) (by decide +kernel) (by decide)) (
  xval (s_aload_n (f := 0) (by decide +kernel) rfl) (
  xval (s_iload (by decide +kernel)) (
  xval (s_iload (by decide +kernel)) (
  xval (s_callV (i := 151) c_M_override (by decide +kernel) rfl (xtt_good tw_935) rfl (tc tw_932) (tc tw_934) (tc ts_38) (tc tw_6) ⟨by decide, by decide, by decide +kernel⟩ ⟨by decide, by decide, rfl, rfl, by decide, by decide⟩ x0_e) (
  xval (s_ifeq (z := 16) (by decide +kernel) (by decide)) (
  xval (s_aload_n (f := 0) (by decide +kernel) rfl) (
  xval (s_getf (i := 39) (by decide +kernel) rfl tin_M (by decide) (tc tw_777)) (
  xval (s_iload (by decide +kernel)) (
  xval (s_iconst (z := 1) (by decide +kernel) (by decide)) (
  xval (s_bastore (by decide +kernel)) (
  xval (s_iinc (z := 1) (by decide +kernel) (by decide) (by decide)) (
  xval (s_iconst (z := 1) (by decide +kernel) (by decide)) (
  xval (s_istore_n (f := 3) (by decide +kernel) rfl (by decide)) (
  xval (s_iinc (z := 1) (by decide +kernel) (by decide) (by decide)) (
  xval (s_goto (z := (-96)) (by decide +kernel) (by decide)) (
  xval (s_iinc (z := 1) (by decide +kernel) (by decide) (by decide)) (
  xval (s_goto (z := (-112)) (by decide +kernel) (by decide)) (
  xval (s_goto (z := (-124)) (by decide +kernel) (by decide)) (
  xval (s_iload_n (f := 2) (by decide +kernel) rfl) (
  xval (s_iret (by decide +kernel)) (
  xval_nil)))))))))))))))))))))))))))))))))))))))))))))))))))))))))))))))))))))))))))))))))))))))
theorem c_M_family : xMet xCl y_M_family ws_M_family rm_M_family (xRun tb_M_family 7) := xMet.of (by decide) rfl v_M_family
def tb_M_moveMember : xT := [(0, o_aload 0 1), (1, o_aload 0 1), (2, o_iload 1 1), (3, o_iload 2 1), (4, o_callV (xRun tb_M_isMember 3) 5 2 0 0), (7, o_ifn (fun a => a = 0) 14), (10, o_i 1 1), (11, o_goto 27), (14, o_lload 3 1), (15, o_i 1 1), (16, o_call (xRun tb_M_isName 8) 2 0 0), (19, o_ifn (fun a => a = 0) 26), (22, o_i 2 1), (23, o_goto 27), (26, o_i 0 1), (27, o_puti 5 0), (30, o_aload 0 1), (31, o_getf 5 0), (34, o_if (fun a => a ≤ 0) 39), (37, o_i 0 1), (38, o_iret), (39, o_aload 0 1), (40, o_i 8 2), (42, o_iload 1 1), (43, o_ii (fun a b => a * b)), (44, o_iload 2 1), (45, o_ii (fun a b => a + b)), (46, o_callV (xRun tb_M_family 7) 5 1 0 0), (49, o_istore 5 2), (51, o_i 0 1), (52, o_istore 6 2), (54, o_iload 6 2), (56, o_i 64 2), (58, o_ic (fun a b => b ≤ a) 95), (61, o_aload 0 1), (62, o_getf 5 8), (65, o_iload 6 2), (67, o_aload 0 1), (68, o_getf 5 11), (71, o_iload 6 2), (73, o_baload), (74, o_if (fun a => a = 0) 81), (77, o_lload 3 1), (78, o_goto 88), (81, o_aload 0 1), (82, o_getf 5 8), (85, o_iload 6 2), (87, o_laload), (88, o_lastore), (89, o_iinc 6 1), (92, o_goto 54), (95, o_iload 5 2), (97, o_iret)]
abbrev y_M_moveMember : MethodName := ⟨"NameMoverModel", "moveMember", "(IIJ)I"⟩
abbrev rm_M_moveMember : Room := { frames := 4, cells := 0, slots := 0, locals := 95 }
abbrev ws_M_moveMember : List Cond := Cond.code y_M_moveMember prog_11_method_31_code 7 (some .int) :: xtt
set_option maxRecDepth 100000 in
theorem v_M_moveMember : ∀ q ∈ tb_M_moveMember, xSd (0, 0) x0 xCl "NameMoverModel" ws_M_moveMember prog_11_method_31_code 7 (some .int) rm_M_moveMember q :=
  xval (s_aload_n (f := 0) (by decide +kernel) rfl) (
  xval (s_aload_n (f := 0) (by decide +kernel) rfl) (
  xval (s_iload_n (f := 1) (by decide +kernel) rfl) (
  xval (s_iload_n (f := 2) (by decide +kernel) rfl) (
  xval (s_callV (i := 154) c_M_isMember (by decide +kernel) rfl (xtt_good tw_927) rfl (tc tw_924) (tc tw_926) (tc ts_36) (tc tw_6) ⟨by decide, by decide, by decide +kernel⟩ ⟨by decide, by decide, rfl, rfl, by decide, by decide⟩ x0_e) (
  xval (s_ifne (z := 7) (by decide +kernel) (by decide)) (
  xval (s_iconst (z := 1) (by decide +kernel) (by decide)) (
  xval (s_goto (z := 16) (by decide +kernel) (by decide)) (
  xval (s_lload_n (f := 3) (by decide +kernel) rfl) (
  xval (s_iconst (z := 1) (by decide +kernel) (by decide)) (
  xval (s_callS (i := 109) c_M_isName (by decide +kernel) rfl (xtt_good tw_846) (tc tw_844) (tc tw_845) (tc tw_6) ⟨by decide, by decide, by decide +kernel⟩ ⟨by decide, by decide, rfl, rfl, by decide, by decide⟩ x0_e) (
  xval (s_ifne (z := 7) (by decide +kernel) (by decide)) (
  xval (s_iconst (z := 2) (by decide +kernel) (by decide)) (
  xval (s_goto (z := 4) (by decide +kernel) (by decide)) (
  xval (s_iconst (z := 0) (by decide +kernel) (by decide)) (
  xval (s_puti (i := 60) (by decide +kernel) rfl tin_M (by decide) (tc tw_766) tM tM_ok nM rfl (by decide +kernel)) (
  xval (s_aload_n (f := 0) (by decide +kernel) rfl) (
  xval (s_getf (i := 60) (by decide +kernel) rfl tin_M (by decide) (tc tw_766)) (
  xval (s_ifle (z := 5) (by decide +kernel) (by decide)) (
  xval (s_iconst (z := 0) (by decide +kernel) (by decide)) (
  xval (s_iret (by decide +kernel)) (
  xval (s_aload_n (f := 0) (by decide +kernel) rfl) (
  xval (s_bipush (z := 8) (by decide +kernel) (by decide)) (
  xval (s_iload_n (f := 1) (by decide +kernel) rfl) (
  xval (s_imul (by decide +kernel)) (
  xval (s_iload_n (f := 2) (by decide +kernel) rfl) (
  xval (s_iadd (by decide +kernel)) (
  xval (s_callV (i := 157) c_M_family (by decide +kernel) rfl (xtt_good tw_931) rfl (tc tw_928) (tc tw_930) (tc ts_37) (tc tw_6) ⟨by decide, by decide, by decide +kernel⟩ ⟨by decide, by decide, rfl, rfl, by decide, by decide⟩ x0_e) (
  xval (s_istore (by decide +kernel) (by decide)) (
  xval (s_iconst (z := 0) (by decide +kernel) (by decide)) (
  xval (s_istore (by decide +kernel) (by decide)) (
  xval (s_iload (by decide +kernel)) (
  xval (s_bipush (z := 64) (by decide +kernel) (by decide)) (
  xval (s_icge (z := 37) (by decide +kernel) (by decide)) (
  xval (s_aload_n (f := 0) (by decide +kernel) rfl) (
  xval (s_getf (i := 30) (by decide +kernel) rfl tin_M (by decide) (tc tw_774)) (
  xval (s_iload (by decide +kernel)) (
  xval (s_aload_n (f := 0) (by decide +kernel) rfl) (
  xval (s_getf (i := 39) (by decide +kernel) rfl tin_M (by decide) (tc tw_777)) (
  xval (s_iload (by decide +kernel)) (
  xval (s_baload (by decide +kernel)) (
  xval (s_ifeq (z := 7) (by decide +kernel) (by decide)) (
  xval (s_lload_n (f := 3) (by decide +kernel) rfl) (
  xval (s_goto (z := 10) (by decide +kernel) (by decide)) (
  xval (s_aload_n (f := 0) (by decide +kernel) rfl) (
  xval (s_getf (i := 30) (by decide +kernel) rfl tin_M (by decide) (tc tw_774)) (
  xval (s_iload (by decide +kernel)) (
  xval (s_laload (by decide +kernel)) (
  xval (s_lastore (by decide +kernel)) (
  xval (s_iinc (z := 1) (by decide +kernel) (by decide) (by decide)) (
  xval (s_goto (z := (-38)) (by decide +kernel) (by decide)) (
  xval (s_iload (by decide +kernel)) (
  xval (s_iret (by decide +kernel)) (
  xval_nil)))))))))))))))))))))))))))))))))))))))))))))))))))))
theorem c_M_moveMember : xMet xCl y_M_moveMember ws_M_moveMember rm_M_moveMember (xRun tb_M_moveMember 7) := xMet.of (by decide) rfl v_M_moveMember
def tb_M_isThere : xT := [(0, o_iload 1 1), (1, o_i 8 2), (3, o_dr (fun a b => a / b)), (4, o_aload 0 1), (5, o_getf 5 1), (8, o_ic (fun a b => b ≤ a) 31), (11, o_iload 1 1), (12, o_i 8 2), (14, o_dr (fun a b => a - a / b * b)), (15, o_aload 0 1), (16, o_getf 5 6), (19, o_iload 1 1), (20, o_i 8 2), (22, o_dr (fun a b => a / b)), (23, o_iaload), (24, o_ic (fun a b => b ≤ a) 31), (27, o_i 1 1), (28, o_goto 32), (31, o_i 0 1), (32, o_zret)]
abbrev y_M_isThere : MethodName := ⟨"NameMoverModel", "isThere", "(I)Z"⟩
abbrev rm_M_isThere : Room := { frames := 0, cells := 0, slots := 0, locals := 0 }
abbrev ws_M_isThere : List Cond := Cond.code y_M_isThere prog_11_method_32_code 2 (some .boolean) :: xtt
set_option maxRecDepth 100000 in
theorem v_M_isThere : ∀ q ∈ tb_M_isThere, xSd (0, 0) x0 xCl "NameMoverModel" ws_M_isThere prog_11_method_32_code 2 (some .boolean) rm_M_isThere q :=
  xval (s_iload_n (f := 1) (by decide +kernel) rfl) (
  xval (s_bipush (z := 8) (by decide +kernel) (by decide)) (
  xval (s_idiv (by decide +kernel)) (
  xval (s_aload_n (f := 0) (by decide +kernel) rfl) (
  xval (s_getf (i := 99) (by decide +kernel) rfl tin_M (by decide) (tc tw_767)) (
  xval (s_icge (z := 23) (by decide +kernel) (by decide)) (
  xval (s_iload_n (f := 1) (by decide +kernel) rfl) (
  xval (s_bipush (z := 8) (by decide +kernel) (by decide)) (
  xval (s_irem (by decide +kernel)) (
  xval (s_aload_n (f := 0) (by decide +kernel) rfl) (
  xval (s_getf (i := 24) (by decide +kernel) rfl tin_M (by decide) (tc tw_772)) (
  xval (s_iload_n (f := 1) (by decide +kernel) rfl) (
  xval (s_bipush (z := 8) (by decide +kernel) (by decide)) (
  xval (s_idiv (by decide +kernel)) (
  xval (s_iaload (by decide +kernel)) (
  xval (s_icge (z := 7) (by decide +kernel) (by decide)) (
  xval (s_iconst (z := 1) (by decide +kernel) (by decide)) (
  xval (s_goto (z := 4) (by decide +kernel) (by decide)) (
  xval (s_iconst (z := 0) (by decide +kernel) (by decide)) (
  xval (s_zret (by decide +kernel)) (
  xval_nil))))))))))))))))))))
theorem c_M_isThere : xMet xCl y_M_isThere ws_M_isThere rm_M_isThere (xRun tb_M_isThere 2) := xMet.of (by decide) rfl v_M_isThere
def tb_M_meet : xT := [(0, o_aload 0 1), (1, o_iload 1 1), (2, o_i 8 2), (4, o_dr (fun a b => a / b)), (5, o_iload 2 1), (6, o_i 8 2), (8, o_dr (fun a b => a / b)), (9, o_callV (xRun tb_M_areRelated 3) 5 2 0 0), (12, o_if (fun a => a = 0) 67), (15, o_aload 0 1), (16, o_getf 5 9), (19, o_iload 1 1), (20, o_laload), (21, o_aload 0 1), (22, o_getf 5 9), (25, o_iload 2 1), (26, o_laload), (27, o_lcmp), (28, o_ifn (fun a => a = 0) 67), (31, o_aload 0 1), (32, o_getf 5 8), (35, o_iload 1 1), (36, o_laload), (37, o_aload 0 1), (38, o_getf 5 8), (41, o_iload 2 1), (42, o_laload), (43, o_lcmp), (44, o_ifn (fun a => a = 0) 67), (47, o_aload 0 1), (48, o_getf 5 7), (51, o_iload 1 1), (52, o_laload), (53, o_aload 0 1), (54, o_getf 5 7), (57, o_iload 2 1), (58, o_laload), (59, o_lcmp), (60, o_if (fun a => a = 0) 67), (63, o_i 1 1), (64, o_goto 68), (67, o_i 0 1), (68, o_zret)]
abbrev y_M_meet : MethodName := ⟨"NameMoverModel", "meet", "(II)Z"⟩
abbrev rm_M_meet : Room := { frames := 2, cells := 0, slots := 0, locals := 45 }
abbrev ws_M_meet : List Cond := Cond.code y_M_meet prog_11_method_33_code 3 (some .boolean) :: xtt
set_option maxRecDepth 100000 in
theorem v_M_meet : ∀ q ∈ tb_M_meet, xSd (0, 0) x0 xCl "NameMoverModel" ws_M_meet prog_11_method_33_code 3 (some .boolean) rm_M_meet q :=
  xval (s_aload_n (f := 0) (by decide +kernel) rfl) (
  xval (s_iload_n (f := 1) (by decide +kernel) rfl) (
  xval (s_bipush (z := 8) (by decide +kernel) (by decide)) (
  xval (s_idiv (by decide +kernel)) (
  xval (s_iload_n (f := 2) (by decide +kernel) rfl) (
  xval (s_bipush (z := 8) (by decide +kernel) (by decide)) (
  xval (s_idiv (by decide +kernel)) (
  xval (s_callV (i := 148) c_M_areRelated (by decide +kernel) rfl (xtt_good tw_943) rfl (tc tw_940) (tc tw_942) (tc ts_40) (tc tw_6) ⟨by decide, by decide, by decide +kernel⟩ ⟨by decide, by decide, rfl, rfl, by decide, by decide⟩ x0_e) (
  xval (s_ifeq (z := 55) (by decide +kernel) (by decide)) (
  xval (s_aload_n (f := 0) (by decide +kernel) rfl) (
  xval (s_getf (i := 33) (by decide +kernel) rfl tin_M (by decide) (tc tw_775)) (
  xval (s_iload_n (f := 1) (by decide +kernel) rfl) (
  xval (s_laload (by decide +kernel)) (
  xval (s_aload_n (f := 0) (by decide +kernel) rfl) (
  xval (s_getf (i := 33) (by decide +kernel) rfl tin_M (by decide) (tc tw_775)) (
  xval (s_iload_n (f := 2) (by decide +kernel) rfl) (
  xval (s_laload (by decide +kernel)) (
  xval (s_lcmp (by decide +kernel)) (
  xval (s_ifne (z := 39) (by decide +kernel) (by decide)) (
  xval (s_aload_n (f := 0) (by decide +kernel) rfl) (
  xval (s_getf (i := 30) (by decide +kernel) rfl tin_M (by decide) (tc tw_774)) (
  xval (s_iload_n (f := 1) (by decide +kernel) rfl) (
  xval (s_laload (by decide +kernel)) (
  xval (s_aload_n (f := 0) (by decide +kernel) rfl) (
  xval (s_getf (i := 30) (by decide +kernel) rfl tin_M (by decide) (tc tw_774)) (
  xval (s_iload_n (f := 2) (by decide +kernel) rfl) (
  xval (s_laload (by decide +kernel)) (
  xval (s_lcmp (by decide +kernel)) (
  xval (s_ifne (z := 23) (by decide +kernel) (by decide)) (
  xval (s_aload_n (f := 0) (by decide +kernel) rfl) (
  xval (s_getf (i := 27) (by decide +kernel) rfl tin_M (by decide) (tc tw_773)) (
  xval (s_iload_n (f := 1) (by decide +kernel) rfl) (
  xval (s_laload (by decide +kernel)) (
  xval (s_aload_n (f := 0) (by decide +kernel) rfl) (
  xval (s_getf (i := 27) (by decide +kernel) rfl tin_M (by decide) (tc tw_773)) (
  xval (s_iload_n (f := 2) (by decide +kernel) rfl) (
  xval (s_laload (by decide +kernel)) (
  xval (s_lcmp (by decide +kernel)) (
  xval (s_ifeq (z := 7) (by decide +kernel) (by decide)) (
  xval (s_iconst (z := 1) (by decide +kernel) (by decide)) (
  xval (s_goto (z := 4) (by decide +kernel) (by decide)) (
  xval (s_iconst (z := 0) (by decide +kernel) (by decide)) (
  xval (s_zret (by decide +kernel)) (
  xval_nil)))))))))))))))))))))))))))))))))))))))))))
theorem c_M_meet : xMet xCl y_M_meet ws_M_meet rm_M_meet (xRun tb_M_meet 3) := xMet.of (by decide) rfl v_M_meet
def tb_M_parts : xT := [(0, o_aload 0 1), (1, o_getf 5 2), (4, o_iload 1 1), (5, o_laload), (6, o_call (xRun tb_M_packageOf 3) 1 0 0), (9, o_aload 0 1), (10, o_getf 5 2), (13, o_iload 2 1), (14, o_laload), (15, o_call (xRun tb_M_packageOf 3) 1 0 0), (18, o_lcmp), (19, o_ifn (fun a => a = 0) 26), (22, o_i 1 1), (23, o_goto 27), (26, o_i 0 1), (27, o_aload 0 1), (28, o_getf 5 3), (31, o_iload 1 1), (32, o_laload), (33, o_call (xRun tb_M_packageOf 3) 1 0 0), (36, o_aload 0 1), (37, o_getf 5 3), (40, o_iload 2 1), (41, o_laload), (42, o_call (xRun tb_M_packageOf 3) 1 0 0), (45, o_lcmp), (46, o_ifn (fun a => a = 0) 53), (49, o_i 1 1), (50, o_goto 54), (53, o_i 0 1), (54, o_ic (fun a b => a = b) 61), (57, o_i 1 1), (58, o_goto 62), (61, o_i 0 1), (62, o_zret)]
abbrev y_M_parts : MethodName := ⟨"NameMoverModel", "parts", "(II)Z"⟩
abbrev rm_M_parts : Room := { frames := 3, cells := 0, slots := 0, locals := 67 }
abbrev ws_M_parts : List Cond := Cond.code y_M_parts prog_11_method_34_code 3 (some .boolean) :: xtt
set_option maxRecDepth 100000 in
theorem v_M_parts : ∀ q ∈ tb_M_parts, xSd (0, 0) x0 xCl "NameMoverModel" ws_M_parts prog_11_method_34_code 3 (some .boolean) rm_M_parts q :=
  xval (s_aload_n (f := 0) (by decide +kernel) rfl) (
  xval (s_getf (i := 7) (by decide +kernel) rfl tin_M (by decide) (tc tw_768)) (
  xval (s_iload_n (f := 1) (by decide +kernel) rfl) (
  xval (s_laload (by decide +kernel)) (
  xval (s_callS (i := 137) c_M_packageOf (by decide +kernel) rfl (xtt_good tw_909) (tc tw_907) (tc tw_908) (tc tw_6) ⟨by decide, by decide, by decide +kernel⟩ ⟨by decide, by decide, rfl, rfl, by decide, by decide⟩ x0_e) (
  xval (s_aload_n (f := 0) (by decide +kernel) rfl) (
  xval (s_getf (i := 7) (by decide +kernel) rfl tin_M (by decide) (tc tw_768)) (
  xval (s_iload_n (f := 2) (by decide +kernel) rfl) (
  xval (s_laload (by decide +kernel)) (
  xval (s_callS (i := 137) c_M_packageOf (by decide +kernel) rfl (xtt_good tw_909) (tc tw_907) (tc tw_908) (tc tw_6) ⟨by decide, by decide, by decide +kernel⟩ ⟨by decide, by decide, rfl, rfl, by decide, by decide⟩ x0_e) (
  xval (s_lcmp (by decide +kernel)) (
  xval (s_ifne (z := 7) (by decide +kernel) (by decide)) (
  xval (s_iconst (z := 1) (by decide +kernel) (by decide)) (
  xval (s_goto (z := 4) (by decide +kernel) (by decide)) (
  xval (s_iconst (z := 0) (by decide +kernel) (by decide)) (
  xval (s_aload_n (f := 0) (by decide +kernel) rfl) (
  xval (s_getf (i := 13) (by decide +kernel) rfl tin_M (by decide) (tc tw_769)) (
  xval (s_iload_n (f := 1) (by decide +kernel) rfl) (
  xval (s_laload (by decide +kernel)) (
  xval (s_callS (i := 137) c_M_packageOf (by decide +kernel) rfl (xtt_good tw_909) (tc tw_907) (tc tw_908) (tc tw_6) ⟨by decide, by decide, by decide +kernel⟩ ⟨by decide, by decide, rfl, rfl, by decide, by decide⟩ x0_e) (
  xval (s_aload_n (f := 0) (by decide +kernel) rfl) (
  xval (s_getf (i := 13) (by decide +kernel) rfl tin_M (by decide) (tc tw_769)) (
  xval (s_iload_n (f := 2) (by decide +kernel) rfl) (
  xval (s_laload (by decide +kernel)) (
  xval (s_callS (i := 137) c_M_packageOf (by decide +kernel) rfl (xtt_good tw_909) (tc tw_907) (tc tw_908) (tc tw_6) ⟨by decide, by decide, by decide +kernel⟩ ⟨by decide, by decide, rfl, rfl, by decide, by decide⟩ x0_e) (
  xval (s_lcmp (by decide +kernel)) (
  xval (s_ifne (z := 7) (by decide +kernel) (by decide)) (
  xval (s_iconst (z := 1) (by decide +kernel) (by decide)) (
  xval (s_goto (z := 4) (by decide +kernel) (by decide)) (
  xval (s_iconst (z := 0) (by decide +kernel) (by decide)) (
  xval (s_iceq (z := 7) (by decide +kernel) (by decide)) (
  xval (s_iconst (z := 1) (by decide +kernel) (by decide)) (
  xval (s_goto (z := 4) (by decide +kernel) (by decide)) (
  xval (s_iconst (z := 0) (by decide +kernel) (by decide)) (
  xval (s_zret (by decide +kernel)) (
  xval_nil)))))))))))))))))))))))))))))))))))
theorem c_M_parts : xMet xCl y_M_parts ws_M_parts rm_M_parts (xRun tb_M_parts 3) := xMet.of (by decide) rfl v_M_parts
def tb_M_trouble : xT := [(0, o_i 0 1), (1, o_istore 1 1), (2, o_iload 1 1), (3, o_aload 0 1), (4, o_getf 5 1), (7, o_ic (fun a b => b ≤ a) 50), (10, o_aload 0 1), (11, o_getf 5 5), (14, o_iload 1 1), (15, o_baload), (16, o_if (fun a => a = 0) 44), (19, o_aload 0 1), (20, o_getf 5 2), (23, o_iload 1 1), (24, o_laload), (25, o_aload 0 1), (26, o_getf 5 3), (29, o_iload 1 1), (30, o_laload), (31, o_lcmp), (32, o_if (fun a => a = 0) 44), (35, o_i 10000 3), (38, o_i 100 2), (40, o_iload 1 1), (41, o_ii (fun a b => a * b)), (42, o_ii (fun a b => a + b)), (43, o_iret), (44, o_iinc 1 1), (47, o_goto 2), (50, o_i 0 1), (51, o_istore 1 1), (52, o_iload 1 1), (53, o_i 64 2), (55, o_ic (fun a b => b ≤ a) 109), (58, o_aload 0 1), (59, o_iload 1 1), (60, o_callV (xRun tb_M_isThere 2) 5 1 0 0), (63, o_if (fun a => a = 0) 103), (66, o_aload 0 1), (67, o_getf 5 5), (70, o_iload 1 1), (71, o_i 8 2), (73, o_dr (fun a b => a / b)), (74, o_baload), (75, o_if (fun a => a = 0) 103), (78, o_aload 0 1), (79, o_getf 5 7), (82, o_iload 1 1), (83, o_laload), (84, o_aload 0 1), (85, o_getf 5 8), (88, o_iload 1 1), (89, o_laload), (90, o_lcmp), (91, o_if (fun a => a = 0) 103), (94, o_i 20000 3), (97, o_i 100 2), (99, o_iload 1 1), (100, o_ii (fun a b => a * b)), (101, o_ii (fun a b => a + b)), (102, o_iret), (103, o_iinc 1 1), (106, o_goto 52), (109, o_i 3 1), (110, o_istore 1 1), (111, o_iload 1 1), (112, o_i 4 1), (113, o_ic (fun a b => b < a) 211), (116, o_i 0 1), (117, o_istore 2 1), (118, o_iload 2 1), (119, o_aload 0 1), (120, o_getf 5 1), (123, o_ic (fun a b => b ≤ a) 205), (126, o_iload 2 1), (127, o_i 1 1), (128, o_ii (fun a b => a + b)), (129, o_istore 3 1), (130, o_iload 3 1), (131, o_aload 0 1), (132, o_getf 5 1), (135, o_ic (fun a b => b ≤ a) 199), (138, o_iload 1 1), (139, o_i 3 1), (140, o_icn (fun a b => a = b) 167), (143, o_aload 0 1), (144, o_getf 5 3), (147, o_iload 2 1), (148, o_laload), (149, o_aload 0 1), (150, o_getf 5 3), (153, o_iload 3 1), (154, o_laload), (155, o_lcmp), (156, o_ifn (fun a => a = 0) 163), (159, o_i 1 1), (160, o_goto 173), (163, o_i 0 1), (164, o_goto 173), (167, o_aload 0 1), (168, o_iload 2 1), (169, o_iload 3 1), (170, o_callV (xRun tb_M_parts 3) 5 2 0 0), (173, o_istore 4 2), (175, o_iload 4 2), (177, o_if (fun a => a = 0) 193), (180, o_i 10000 3), (183, o_iload 1 1), (184, o_ii (fun a b => a * b)), (185, o_i 100 2), (187, o_iload 2 1), (188, o_ii (fun a b => a * b)), (189, o_ii (fun a b => a + b)), (190, o_iload 3 1), (191, o_ii (fun a b => a + b)), (192, o_iret), (193, o_iinc 3 1), (196, o_goto 130), (199, o_iinc 2 1), (202, o_goto 118), (205, o_iinc 1 1), (208, o_goto 111), (211, o_i 0 1), (212, o_istore 1 1), (213, o_iload 1 1), (214, o_i 64 2), (216, o_ic (fun a b => b ≤ a) 276), (219, o_iload 1 1), (220, o_i 1 1), (221, o_ii (fun a b => a + b)), (222, o_istore 2 1), (223, o_iload 2 1), (224, o_i 64 2), (226, o_ic (fun a b => b ≤ a) 270), (229, o_aload 0 1), (230, o_iload 1 1), (231, o_callV (xRun tb_M_isThere 2) 5 1 0 0), (234, o_if (fun a => a = 0) 270), (237, o_aload 0 1), (238, o_iload 2 1), (239, o_callV (xRun tb_M_isThere 2) 5 1 0 0), (242, o_if (fun a => a = 0) 264), (245, o_aload 0 1), (246, o_iload 1 1), (247, o_iload 2 1), (248, o_callV (xRun tb_M_meet 3) 5 2 0 0), (251, o_if (fun a => a = 0) 264), (254, o_i 50000 2), (256, o_i 100 2), (258, o_iload 1 1), (259, o_ii (fun a b => a * b)), (260, o_ii (fun a b => a + b)), (261, o_iload 2 1), (262, o_ii (fun a b => a + b)), (263, o_iret), (264, o_iinc 2 1), (267, o_goto 223), (270, o_iinc 1 1), (273, o_goto 213), (276, o_i 0 1), (277, o_iret)]
abbrev y_M_trouble : MethodName := ⟨"NameMoverModel", "trouble", "()I"⟩
abbrev rm_M_trouble : Room := { frames := 4, cells := 0, slots := 0, locals := 89 }
abbrev ws_M_trouble : List Cond := Cond.code y_M_trouble prog_11_method_35_code 5 (some .int) :: xtt
set_option maxRecDepth 100000 in
theorem v_M_trouble : ∀ q ∈ tb_M_trouble, xSd (0, 0) x0 xCl "NameMoverModel" ws_M_trouble prog_11_method_35_code 5 (some .int) rm_M_trouble q :=
  xval (s_iconst (z := 0) (by decide +kernel) (by decide)) (
  xval (s_istore_n (f := 1) (by decide +kernel) rfl (by decide)) (
  xval (s_iload_n (f := 1) (by decide +kernel) rfl) (
  xval (s_aload_n (f := 0) (by decide +kernel) rfl) (
  xval (s_getf (i := 99) (by decide +kernel) rfl tin_M (by decide) (tc tw_767)) (
  xval (s_icge (z := 43) (by decide +kernel) (by decide)) (
  xval (s_aload_n (f := 0) (by decide +kernel) rfl) (
  xval (s_getf (i := 20) (by decide +kernel) rfl tin_M (by decide) (tc tw_771)) (
  xval (s_iload_n (f := 1) (by decide +kernel) rfl) (
  xval (s_baload (by decide +kernel)) (
  xval (s_ifeq (z := 28) (by decide +kernel) (by decide)) (
  xval (s_aload_n (f := 0) (by decide +kernel) rfl) (
  xval (s_getf (i := 7) (by decide +kernel) rfl tin_M (by decide) (tc tw_768)) (
  xval (s_iload_n (f := 1) (by decide +kernel) rfl) (
  xval (s_laload (by decide +kernel)) (
  xval (s_aload_n (f := 0) (by decide +kernel) rfl) (
  xval (s_getf (i := 13) (by decide +kernel) rfl tin_M (by decide) (tc tw_769)) (
  xval (s_iload_n (f := 1) (by decide +kernel) rfl) (
  xval (s_laload (by decide +kernel)) (
  xval (s_lcmp (by decide +kernel)) (
  xval (s_ifeq (z := 12) (by decide +kernel) (by decide)) (
  xval (s_sipush (z := 10000) (by decide +kernel) (by decide)) (
  xval (s_bipush (z := 100) (by decide +kernel) (by decide)) (
  xval (s_iload_n (f := 1) (by decide +kernel) rfl) (
  xval (s_imul (by decide +kernel)) (
  xval (s_iadd (by decide +kernel)) (
  xval (s_iret (by decide +kernel)) (
  xval (s_iinc (z := 1) (by decide +kernel) (by decide) (by decide)) (
  xval (s_goto (z := (-45)) (by decide +kernel) (by decide)) (
  xval (s_iconst (z := 0) (by decide +kernel) (by decide)) (
  xval (s_istore_n (f := 1) (by decide +kernel) rfl (by decide)) (
  xval (s_iload_n (f := 1) (by decide +kernel) rfl) (
  xval (s_bipush (z := 64) (by decide +kernel) (by decide)) (
  xval (s_icge (z := 54) (by decide +kernel) (by decide)) (
  xval (s_aload_n (f := 0) (by decide +kernel) rfl) (
  xval (s_iload_n (f := 1) (by decide +kernel) rfl) (
  xval (s_callV (i := 161) c_M_isThere (by decide +kernel) rfl (xtt_good tw_959) rfl (tc tw_956) (tc tw_958) (tc ts_43) (tc tw_6) ⟨by decide, by decide, by decide +kernel⟩ ⟨by decide, by decide, rfl, rfl, by decide, by decide⟩ x0_e) (
  xval (s_ifeq (z := 40) (by decide +kernel) (by decide)) (
  xval (s_aload_n (f := 0) (by decide +kernel) rfl) (
  xval (s_getf (i := 20) (by decide +kernel) rfl tin_M (by decide) (tc tw_771)) (
  xval (s_iload_n (f := 1) (by decide +kernel) rfl) (
  xval (s_bipush (z := 8) (by decide +kernel) (by decide)) (
  xval (s_idiv (by decide +kernel)) (
  xval (s_baload (by decide +kernel)) (
  xval (s_ifeq (z := 28) (by decide +kernel) (by decide)) (
  xval (s_aload_n (f := 0) (by decide +kernel) rfl) (
  xval (s_getf (i := 27) (by decide +kernel) rfl tin_M (by decide) (tc tw_773)) (
  xval (s_iload_n (f := 1) (by decide +kernel) rfl) (
  xval (s_laload (by decide +kernel)) (
  xval (s_aload_n (f := 0) (by decide +kernel) rfl) (
  xval (s_getf (i := 30) (by decide +kernel) rfl tin_M (by decide) (tc tw_774)) (
  xval (s_iload_n (f := 1) (by decide +kernel) rfl) (
  xval (s_laload (by decide +kernel)) (
  xval (s_lcmp (by decide +kernel)) (
  xval (s_ifeq (z := 12) (by decide +kernel) (by decide)) (
  xval (s_sipush (z := 20000) (by decide +kernel) (by decide)) (
  xval (s_bipush (z := 100) (by decide +kernel) (by decide)) (
  xval (s_iload_n (f := 1) (by decide +kernel) rfl) (
  xval (s_imul (by decide +kernel)) (
  xval (s_iadd (by decide +kernel)) (
  xval (s_iret (by decide +kernel)) (
  xval (s_iinc (z := 1) (by decide +kernel) (by decide) (by decide)) (
  xval (s_goto (z := (-54)) (by decide +kernel) (by decide)) (
  xval (s_iconst (z := 3) (by decide +kernel) (by decide)) (
  xval (s_istore_n (f := 1) (by decide +kernel) rfl (by decide)) (
  xval (s_iload_n (f := 1) (by decide +kernel) rfl) (
  xval (s_iconst (z := 4) (by decide +kernel) (by decide)) (
  xval (s_icgt (z := 98) (by decide +kernel) (by decide)) (
  xval (s_iconst (z := 0) (by decide +kernel) (by decide)) (
  xval (s_istore_n (f := 2) (by decide +kernel) rfl (by decide)) (
  xval (s_iload_n (f := 2) (by decide +kernel) rfl) (
  xval (s_aload_n (f := 0) (by decide +kernel) rfl) (
  xval (s_getf (i := 99) (by decide +kernel) rfl tin_M (by decide) (tc tw_767)) (
  xval (s_icge (z := 82) (by decide +kernel) (by decide)) (
  xval (s_iload_n (f := 2) (by decide +kernel) rfl) (
  xval (s_iconst (z := 1) (by decide +kernel) (by decide)) (
  xval (s_iadd (by decide +kernel)) (
  xval (s_istore_n (f := 3) (by decide +kernel) rfl (by decide)) (
  xval (s_iload_n (f := 3) (by decide +kernel) rfl) (
  xval (s_aload_n (f := 0) (by decide +kernel) rfl) (
  xval (s_getf (i := 99) (by decide +kernel) rfl tin_M (by decide) (tc tw_767)) (
  xval (s_icge (z := 64) (by decide +kernel) (by decide)) (
  xval (s_iload_n (f := 1) (by decide +kernel) rfl) (
  xval (s_iconst (z := 3) (by decide +kernel) (by decide)) (
  xval (s_icne (z := 27) (by decide +kernel) (by decide)) (
  xval (s_aload_n (f := 0) (by decide +kernel) rfl) (
  xval (s_getf (i := 13) (by decide +kernel) rfl tin_M (by decide) (tc tw_769)) (
  xval (s_iload_n (f := 2) (by decide +kernel) rfl) (
  xval (s_laload (by decide +kernel)) (
  xval (s_aload_n (f := 0) (by decide +kernel) rfl) (
  xval (s_getf (i := 13) (by decide +kernel) rfl tin_M (by decide) (tc tw_769)) (
  xval (s_iload_n (f := 3) (by decide +kernel) rfl) (
  xval (s_laload (by decide +kernel)) (
  xval (s_lcmp (by decide +kernel)) (
  xval (s_ifne (z := 7) (by decide +kernel) (by decide)) (
  xval (s_iconst (z := 1) (by decide +kernel) (by decide)) (
  xval (s_goto (z := 13) (by decide +kernel) (by decide)) (
  xval (s_iconst (z := 0) (by decide +kernel) (by decide)) (
  xval (s_goto (z := 9) (by decide +kernel) (by decide)) (
  xval (s_aload_n (f := 0) (by decide +kernel) rfl) (
  xval (s_iload_n (f := 2) (by decide +kernel) rfl) (
  xval (s_iload_n (f := 3) (by decide +kernel) rfl) (
  xval (s_callV (i := 164) c_M_parts (by decide +kernel) rfl (xtt_good tw_963) rfl (tc tw_960) (tc tw_962) (tc ts_44) (tc tw_6) ⟨by decide, by decide, by decide +kernel⟩ ⟨by decide, by decide, rfl, rfl, by decide, by decide⟩ x0_e) (
  xval (s_istore (by decide +kernel) (by decide)) (
  xval (s_iload (by decide +kernel)) (
  xval (s_ifeq (z := 16) (by decide +kernel) (by decide)) (
  xval (s_sipush (z := 10000) (by decide +kernel) (by decide)) (
  xval (s_iload_n (f := 1) (by decide +kernel) rfl) (
  xval (s_imul (by decide +kernel)) (
  xval (s_bipush (z := 100) (by decide +kernel) (by decide)) (
  xval (s_iload_n (f := 2) (by decide +kernel) rfl) (
  xval (s_imul (by decide +kernel)) (
  xval (s_iadd (by decide +kernel)) (
  xval (s_iload_n (f := 3) (by decide +kernel) rfl) (
  xval (s_iadd (by decide +kernel)) (
  xval (s_iret (by decide +kernel)) (
  xval (s_iinc (z := 1) (by decide +kernel) (by decide) (by decide)) (
  xval (s_goto (z := (-66)) (by decide +kernel) (by decide)) (
  xval (s_iinc (z := 1) (by decide +kernel) (by decide) (by decide)) (
  xval (s_goto (z := (-84)) (by decide +kernel) (by decide)) (
  xval (s_iinc (z := 1) (by decide +kernel) (by decide) (by decide)) (
  xval (s_goto (z := (-97)) (by decide +kernel) (by decide)) (
  xval (s_iconst (z := 0) (by decide +kernel) (by decide)) (
  xval (s_istore_n (f := 1) (by decide +kernel) rfl (by decide)) (
  xval (s_iload_n (f := 1) (by decide +kernel) rfl) (
  xval (s_bipush (z := 64) (by decide +kernel) (by decide)) (
  xval (s_icge (z := 60) (by decide +kernel) (by decide)) (
  xval (s_iload_n (f := 1) (by decide +kernel) rfl) (
  xval (s_iconst (z := 1) (by decide +kernel) (by decide)) (
  xval (s_iadd (by decide +kernel)) (
  xval (s_istore_n (f := 2) (by decide +kernel) rfl (by decide)) (
  xval (s_iload_n (f := 2) (by decide +kernel) rfl) (
  xval (s_bipush (z := 64) (by decide +kernel) (by decide)) (
  xval (s_icge (z := 44) (by decide +kernel) (by decide)) (
  xval (s_aload_n (f := 0) (by decide +kernel) rfl) (
  xval (s_iload_n (f := 1) (by decide +kernel) rfl) (
  xval (s_callV (i := 161) c_M_isThere (by decide +kernel) rfl (xtt_good tw_959) rfl (tc tw_956) (tc tw_958) (tc ts_43) (tc tw_6) ⟨by decide, by decide, by decide +kernel⟩ ⟨by decide, by decide, rfl, rfl, by decide, by decide⟩ x0_e) (
  xval (s_ifeq (z := 36) (by decide +kernel) (by decide)) (
  xval (s_aload_n (f := 0) (by decide +kernel) rfl) (
  xval (s_iload_n (f := 2) (by decide +kernel) rfl) (
  xval (s_callV (i := 161) c_M_isThere (by decide +kernel) rfl (xtt_good tw_959) rfl (tc tw_956) (tc tw_958) (tc ts_43) (tc tw_6) ⟨by decide, by decide, by decide +kernel⟩ ⟨by decide, by decide, rfl, rfl, by decide, by decide⟩ x0_e) (
  xval (s_ifeq (z := 22) (by decide +kernel) (by decide)) (
  xval (s_aload_n (f := 0) (by decide +kernel) rfl) (
  xval (s_iload_n (f := 1) (by decide +kernel) rfl) (
  xval (s_iload_n (f := 2) (by decide +kernel) rfl) (
  xval (s_callV (i := 167) c_M_meet (by decide +kernel) rfl (xtt_good tw_967) rfl (tc tw_964) (tc tw_966) (tc ts_45) (tc tw_6) ⟨by decide, by decide, by decide +kernel⟩ ⟨by decide, by decide, rfl, rfl, by decide, by decide⟩ x0_e) (
  xval (s_ifeq (z := 13) (by decide +kernel) (by decide)) (
  xval (s_ldc (i := 170) (by decide +kernel) (tc tw_968)) (
  xval (s_bipush (z := 100) (by decide +kernel) (by decide)) (
  xval (s_iload_n (f := 1) (by decide +kernel) rfl) (
  xval (s_imul (by decide +kernel)) (
  xval (s_iadd (by decide +kernel)) (
  xval (s_iload_n (f := 2) (by decide +kernel) rfl) (
  xval (s_iadd (by decide +kernel)) (
  xval (s_iret (by decide +kernel)) (
  xval (s_iinc (z := 1) (by decide +kernel) (by decide) (by decide)) (
  xval (s_goto (z := (-44)) (by decide +kernel) (by decide)) (
  xval (s_iinc (z := 1) (by decide +kernel) (by decide) (by decide)) (
  xval (s_goto (z := (-60)) (by decide +kernel) (by decide)) (
  xval (s_iconst (z := 0) (by decide +kernel) (by decide)) (
  xval (s_iret (by decide +kernel)) (
  xval_nil)))))))))))))))))))))))))))))))))))))))))))))))))))))))))))))))))))))))))))))))))))))))))))))))))))))))))))))))))))))))))))))))))))))))))))))))))))))))))))))))))
theorem c_M_trouble : xMet xCl y_M_trouble ws_M_trouble rm_M_trouble (xRun tb_M_trouble 5) := xMet.of (by decide) rfl v_M_trouble
