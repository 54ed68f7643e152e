def tb_M_isDescriptor : xT := [(0, o_lload 1 1), (1, o_call (xRun tb_M_length 3) 1 0 0), (4, o_istore 4 2), (6, o_lload 1 1), (7, o_call (xRun tb_M_isText 5) 1 0 0), (10, o_if (fun a => a = 0) 18), (13, o_iload 4 2), (15, o_ifn (fun a => a = 0) 20), (18, o_i 0 1), (19, o_zret), (20, o_aload 0 1), (21, o_i 0 1), (22, o_puti 5 22), (25, o_lload 1 1), (26, o_i 0 1), (27, o_call (xRun tb_M_charAt 3) 2 0 0), (30, o_i 40 2), (32, o_ic (fun a b => a = b) 59), (35, o_aload 0 1), (36, o_lload 1 1), (37, o_iload 3 1), (38, o_callV (xRun tb_M_type 5) 5 2 0 0), (41, o_if (fun a => a = 0) 57), (44, o_aload 0 1), (45, o_getf 5 22), (48, o_iload 4 2), (50, o_icn (fun a b => a = b) 57), (53, o_i 1 1), (54, o_goto 58), (57, o_i 0 1), (58, o_zret), (59, o_aload 0 1), (60, o_i 1 1), (61, o_puti 5 22), (64, o_aload 0 1), (65, o_getf 5 22), (68, o_iload 4 2), (70, o_ic (fun a b => b ≤ a) 97), (73, o_lload 1 1), (74, o_aload 0 1), (75, o_getf 5 22), (78, o_call (xRun tb_M_charAt 3) 2 0 0), (81, o_i 41 2), (83, o_ic (fun a b => a = b) 97), (86, o_aload 0 1), (87, o_lload 1 1), (88, o_iload 3 1), (89, o_callV (xRun tb_M_type 5) 5 2 0 0), (92, o_ifn (fun a => a = 0) 64), (95, o_i 0 1), (96, o_zret), (97, o_aload 0 1), (98, o_dup), (99, o_getf 5 22), (102, o_i 1 1), (103, o_ii (fun a b => a + b)), (104, o_puti 5 22), (107, o_aload 0 1), (108, o_getf 5 22), (111, o_iload 4 2), (113, o_ic (fun a b => a < b) 118), (116, o_i 0 1), (117, o_zret), (118, o_lload 1 1), (119, o_aload 0 1), (120, o_getf 5 22), (123, o_call (xRun tb_M_charAt 3) 2 0 0), (126, o_i 86 2), (128, o_icn (fun a b => a = b) 148), (131, o_aload 0 1), (132, o_getf 5 22), (135, o_i 1 1), (136, o_ii (fun a b => a + b)), (137, o_iload 4 2), (139, o_icn (fun a b => a = b) 146), (142, o_i 1 1), (143, o_goto 147), (146, o_i 0 1), (147, o_zret), (148, o_aload 0 1), (149, o_lload 1 1), (150, o_iload 3 1), (151, o_callV (xRun tb_M_type 5) 5 2 0 0), (154, o_if (fun a => a = 0) 170), (157, o_aload 0 1), (158, o_getf 5 22), (161, o_iload 4 2), (163, o_icn (fun a b => a = b) 170), (166, o_i 1 1), (167, o_goto 171), (170, o_i 0 1), (171, o_zret)]
abbrev y_M_isDescriptor : MethodName := ⟨"NameMoverModel", "isDescriptor", "(JI)Z"⟩
abbrev rm_M_isDescriptor : Room := { frames := 3, cells := 0, slots := 0, locals := 68 }
abbrev ws_M_isDescriptor : List Cond := Cond.code y_M_isDescriptor prog_11_method_13_code 5 (some .boolean) :: xtt
set_option maxRecDepth 100000 in
theorem v_M_isDescriptor : ∀ q ∈ tb_M_isDescriptor, xSd (0, 0) x0 xCl "NameMoverModel" ws_M_isDescriptor prog_11_method_13_code 5 (some .boolean) rm_M_isDescriptor q :=
  xval (s_lload_n (f := 1) (by decide +kernel) rfl) (
  xval (s_callS (i := 70) c_M_length (by decide +kernel) rfl (xtt_good tw_849) (tc tw_847) (tc tw_848) (tc tw_6) ⟨by decide, by decide, by decide +kernel⟩ ⟨by decide, by decide, rfl, rfl, by decide, by decide⟩ x0_e) (
  xval (s_istore (by decide +kernel) (by decide)) (
  xval (s_lload_n (f := 1) (by decide +kernel) rfl) (
  xval (s_callS (i := 74) c_M_isText (by decide +kernel) rfl (xtt_good tw_856) (tc tw_854) (tc tw_855) (tc tw_6) ⟨by decide, by decide, by decide +kernel⟩ ⟨by decide, by decide, rfl, rfl, by decide, by decide⟩ x0_e) (
  xval (s_ifeq (z := 8) (by decide +kernel) (by decide)) (
  xval (s_iload (by decide +kernel)) (
  xval (s_ifne (z := 5) (by decide +kernel) (by decide)) (
  xval (s_iconst (z := 0) (by decide +kernel) (by decide)) (
  xval (s_zret (by decide +kernel)) (
  xval (s_aload_n (f := 0) (by decide +kernel) rfl) (
  xval (s_iconst (z := 0) (by decide +kernel) (by decide)) (
  xval (s_puti (i := 92) (by decide +kernel) rfl tin_M (by decide) (tc tw_788) tM tM_ok nM rfl (by decide +kernel)) (
  xval (s_lload_n (f := 1) (by decide +kernel) rfl) (
  xval (s_iconst (z := 0) (by decide +kernel) (by decide)) (
  xval (s_callS (i := 66) c_M_charAt (by decide +kernel) rfl (xtt_good tw_852) (tc tw_850) (tc tw_851) (tc tw_6) ⟨by decide, by decide, by decide +kernel⟩ ⟨by decide, by decide, rfl, rfl, by decide, by decide⟩ x0_e) (
  xval (s_bipush (z := 40) (by decide +kernel) (by decide)) (
  xval (s_iceq (z := 27) (by decide +kernel) (by decide)) (
  xval (s_aload_n (f := 0) (by decide +kernel) rfl) (
  xval (s_lload_n (f := 1) (by decide +kernel) rfl) (
  xval (s_iload_n (f := 3) (by decide +kernel) rfl) (
  xval (s_callV (i := 95) c_M_type (by decide +kernel) rfl (xtt_good tw_890) rfl (tc tw_887) (tc tw_889) (tc ts_33) (tc tw_6) ⟨by decide, by decide, by decide +kernel⟩ ⟨by decide, by decide, rfl, rfl, by decide, by decide⟩ x0_e) (
  xval (s_ifeq (z := 16) (by decide +kernel) (by decide)) (
  xval (s_aload_n (f := 0) (by decide +kernel) rfl) (
  xval (s_getf (i := 92) (by decide +kernel) rfl tin_M (by decide) (tc tw_788)) (
  xval (s_iload (by decide +kernel)) (
  xval (s_icne (z := 7) (by decide +kernel) (by decide)) (
  xval (s_iconst (z := 1) (by decide +kernel) (by decide)) (
  xval (s_goto (z := 4) (by decide +kernel) (by decide)) (
  xval (s_iconst (z := 0) (by decide +kernel) (by decide)) (
  xval (s_zret (by decide +kernel)) (
  xval (s_aload_n (f := 0) (by decide +kernel) rfl) (
  xval (s_iconst (z := 1) (by decide +kernel) (by decide)) (
  xval (s_puti (i := 92) (by decide +kernel) rfl tin_M (by decide) (tc tw_788) tM tM_ok nM rfl (by decide +kernel)) (
  xval (s_aload_n (f := 0) (by decide +kernel) rfl) (
  xval (s_getf (i := 92) (by decide +kernel) rfl tin_M (by decide) (tc tw_788)) (
  xval (s_iload (by decide +kernel)) (
  xval (s_icge (z := 27) (by decide +kernel) (by decide)) (
  xval (s_lload_n (f := 1) (by decide +kernel) rfl) (
  xval (s_aload_n (f := 0) (by decide +kernel) rfl) (
  xval (s_getf (i := 92) (by decide +kernel) rfl tin_M (by decide) (tc tw_788)) (
  xval (s_callS (i := 66) c_M_charAt (by decide +kernel) rfl (xtt_good tw_852) (tc tw_850) (tc tw_851) (tc tw_6) ⟨by decide, by decide, by decide +kernel⟩ ⟨by decide, by decide, rfl, rfl, by decide, by decide⟩ x0_e) (
  xval (s_bipush (z := 41) (by decide +kernel) (by decide)) (
  xval (s_iceq (z := 14) (by decide +kernel) (by decide)) (
  xval (s_aload_n (f := 0) (by decide +kernel) rfl) (
  xval (s_lload_n (f := 1) (by decide +kernel) rfl) (
  xval (s_iload_n (f := 3) (by decide +kernel) rfl) (
  xval (s_callV (i := 95) c_M_type (by decide +kernel) rfl (xtt_good tw_890) rfl (tc tw_887) (tc tw_889) (tc ts_33) (tc tw_6) ⟨by decide, by decide, by decide +kernel⟩ ⟨by decide, by decide, rfl, rfl, by decide, by decide⟩ x0_e) (
  xval (s_ifne (z := (-28)) (by decide +kernel) (by decide)) (
  xval (s_iconst (z := 0) (by decide +kernel) (by decide)) (
  xval (s_zret (by decide +kernel)) (
  xval (s_aload_n (f := 0) (by decide +kernel) rfl) (
  xval (s_dup (by decide +kernel)) (
  xval (s_getf (i := 92) (by decide +kernel) rfl tin_M (by decide) (tc tw_788)) (
  xval (s_iconst (z := 1) (by decide +kernel) (by decide)) (
  xval (s_iadd (by decide +kernel)) (
  xval (s_puti (i := 92) (by decide +kernel) rfl tin_M (by decide) (tc tw_788) tM tM_ok nM rfl (by decide +kernel)) (
  xval (s_aload_n (f := 0) (by decide +kernel) rfl) (
  xval (s_getf (i := 92) (by decide +kernel) rfl tin_M (by decide) (tc tw_788)) (
  xval (s_iload (by decide +kernel)) (
  xval (s_iclt (z := 5) (by decide +kernel) (by decide)) (
  xval (s_iconst (z := 0) (by decide +kernel) (by decide)) (
  xval (s_zret (by decide +kernel)) (
  xval (s_lload_n (f := 1) (by decide +kernel) rfl) (
  xval (s_aload_n (f := 0) (by decide +kernel) rfl) (
  xval (s_getf (i := 92) (by decide +kernel) rfl tin_M (by decide) (tc tw_788)) (
  xval (s_callS (i := 66) c_M_charAt (by decide +kernel) rfl (xtt_good tw_852) (tc tw_850) (tc tw_851) (tc tw_6) ⟨by decide, by decide, by decide +kernel⟩ ⟨by decide, by decide, rfl, rfl, by decide, by decide⟩ x0_e) (
  xval (s_bipush (z := 86) (by decide +kernel) (by decide)) (
  xval (s_icne (z := 20) (by decide +kernel) (by decide)) (
  xval (s_aload_n (f := 0) (by decide +kernel) rfl) (
  xval (s_getf (i := 92) (by decide +kernel) rfl tin_M (by decide) (tc tw_788)) (
  xval (s_iconst (z := 1) (by decide +kernel) (by decide)) (
  xval (s_iadd (by decide +kernel)) (
  xval (s_iload (by decide +kernel)) (
  xval (s_icne (z := 7) (by decide +kernel) (by decide)) (
  xval (s_iconst (z := 1) (by decide +kernel) (by decide)) (
  xval (s_goto (z := 4) (by decide +kernel) (by decide)) (
  xval (s_iconst (z := 0) (by decide +kernel) (by decide)) (
  xval (s_zret (by decide +kernel)) (
  xval (s_aload_n (f := 0) (by decide +kernel) rfl) (
  xval (s_lload_n (f := 1) (by decide +kernel) rfl) (
  xval (s_iload_n (f := 3) (by decide +kernel) rfl) (
  xval (s_callV (i := 95) c_M_type (by decide +kernel) rfl (xtt_good tw_890) rfl (tc tw_887) (tc tw_889) (tc ts_33) (tc tw_6) ⟨by decide, by decide, by decide +kernel⟩ ⟨by decide, by decide, rfl, rfl, by decide, by decide⟩ x0_e) (
  xval (s_ifeq (z := 16) (by decide +kernel) (by decide)) (
  xval (s_aload_n (f := 0) (by decide +kernel) rfl) (
  xval (s_getf (i := 92) (by decide +kernel) rfl tin_M (by decide) (tc tw_788)) (
  xval (s_iload (by decide +kernel)) (
  xval (s_icne (z := 7) (by decide +kernel) (by decide)) (
  xval (s_iconst (z := 1) (by decide +kernel) (by decide)) (
  xval (s_goto (z := 4) (by decide +kernel) (by decide)) (
  xval (s_iconst (z := 0) (by decide +kernel) (by decide)) (
  xval (s_zret (by decide +kernel)) (
  xval_nil))))))))))))))))))))))))))))))))))))))))))))))))))))))))))))))))))))))))))))))))))))))))))))
theorem c_M_isDescriptor : xMet xCl y_M_isDescriptor ws_M_isDescriptor rm_M_isDescriptor (xRun tb_M_isDescriptor 5) := xMet.of (by decide) rfl v_M_isDescriptor
def tb_M_isMethod : xT := [(0, o_aload 0 1), (1, o_getf 5 9), (4, o_iload 1 1), (5, o_laload), (6, o_i 0 1), (7, o_call (xRun tb_M_charAt 3) 2 0 0), (10, o_i 40 2), (12, o_icn (fun a b => a = b) 19), (15, o_i 1 1), (16, o_goto 20), (19, o_i 0 1), (20, o_zret)]
abbrev y_M_isMethod : MethodName := ⟨"NameMoverModel", "isMethod", "(I)Z"⟩
abbrev rm_M_isMethod : Room := { frames := 1, cells := 0, slots := 0, locals := 22 }
abbrev ws_M_isMethod : List Cond := Cond.code y_M_isMethod prog_11_method_14_code 2 (some .boolean) :: xtt
set_option maxRecDepth 100000 in
theorem v_M_isMethod : ∀ q ∈ tb_M_isMethod, xSd (0, 0) x0 xCl "NameMoverModel" ws_M_isMethod prog_11_method_14_code 2 (some .boolean) rm_M_isMethod q :=
  xval (s_aload_n (f := 0) (by decide +kernel) rfl) (
  xval (s_getf (i := 33) (by decide +kernel) rfl tin_M (by decide) (tc tw_775)) (
  xval (s_iload_n (f := 1) (by decide +kernel) rfl) (
  xval (s_laload (by decide +kernel)) (
  xval (s_iconst (z := 0) (by decide +kernel) (by decide)) (
  xval (s_callS (i := 66) c_M_charAt (by decide +kernel) rfl (xtt_good tw_852) (tc tw_850) (tc tw_851) (tc tw_6) ⟨by decide, by decide, by decide +kernel⟩ ⟨by decide, by decide, rfl, rfl, by decide, by decide⟩ x0_e) (
  xval (s_bipush (z := 40) (by decide +kernel) (by decide)) (
  xval (s_icne (z := 7) (by decide +kernel) (by decide)) (
  xval (s_iconst (z := 1) (by decide +kernel) (by decide)) (
  xval (s_goto (z := 4) (by decide +kernel) (by decide)) (
  xval (s_iconst (z := 0) (by decide +kernel) (by decide)) (
  xval (s_zret (by decide +kernel)) (
  xval_nil))))))))))))
theorem c_M_isMethod : xMet xCl y_M_isMethod ws_M_isMethod rm_M_isMethod (xRun tb_M_isMethod 2) := xMet.of (by decide) rfl v_M_isMethod
def tb_M_isClass : xT := [(0, o_iload 1 1), (1, o_if (fun a => a < 0) 16), (4, o_iload 1 1), (5, o_aload 0 1), (6, o_getf 5 1), (9, o_ic (fun a b => b ≤ a) 16), (12, o_i 1 1), (13, o_goto 17), (16, o_i 0 1), (17, o_zret)]
abbrev y_M_isClass : MethodName := ⟨"NameMoverModel", "isClass", "(I)Z"⟩
abbrev rm_M_isClass : Room := { frames := 0, cells := 0, slots := 0, locals := 0 }
abbrev ws_M_isClass : List Cond := Cond.code y_M_isClass prog_11_method_15_code 2 (some .boolean) :: xtt
set_option maxRecDepth 100000 in
theorem v_M_isClass : ∀ q ∈ tb_M_isClass, xSd (0, 0) x0 xCl "NameMoverModel" ws_M_isClass prog_11_method_15_code 2 (some .boolean) rm_M_isClass q :=
  xval (s_iload_n (f := 1) (by decide +kernel) rfl) (
  xval (s_iflt (z := 15) (by decide +kernel) (by decide)) (
  xval (s_iload_n (f := 1) (by decide +kernel) rfl) (
  xval (s_aload_n (f := 0) (by decide +kernel) rfl) (
  xval (s_getf (i := 99) (by decide +kernel) rfl tin_M (by decide) (tc tw_767)) (
  xval (s_icge (z := 7) (by decide +kernel) (by decide)) (
  xval (s_iconst (z := 1) (by decide +kernel) (by decide)) (
  xval (s_goto (z := 4) (by decide +kernel) (by decide)) (
  xval (s_iconst (z := 0) (by decide +kernel) (by decide)) (
  xval (s_zret (by decide +kernel)) (
  xval_nil))))))))))
theorem c_M_isClass : xMet xCl y_M_isClass ws_M_isClass rm_M_isClass (xRun tb_M_isClass 2) := xMet.of (by decide) rfl v_M_isClass
def tb_M_isMember : xT := [(0, o_aload 0 1), (1, o_iload 1 1), (2, o_callV (xRun tb_M_isClass 2) 5 1 0 0), (5, o_if (fun a => a = 0) 26), (8, o_iload 2 1), (9, o_if (fun a => a < 0) 26), (12, o_iload 2 1), (13, o_aload 0 1), (14, o_getf 5 6), (17, o_iload 1 1), (18, o_iaload), (19, o_ic (fun a b => b ≤ a) 26), (22, o_i 1 1), (23, o_goto 27), (26, o_i 0 1), (27, o_zret)]
abbrev y_M_isMember : MethodName := ⟨"NameMoverModel", "isMember", "(II)Z"⟩
abbrev rm_M_isMember : Room := { frames := 1, cells := 0, slots := 0, locals := 21 }
abbrev ws_M_isMember : List Cond := Cond.code y_M_isMember prog_11_method_16_code 3 (some .boolean) :: xtt
set_option maxRecDepth 100000 in
theorem v_M_isMember : ∀ q ∈ tb_M_isMember, xSd (0, 0) x0 xCl "NameMoverModel" ws_M_isMember prog_11_method_16_code 3 (some .boolean) rm_M_isMember q :=
  xval (s_aload_n (f := 0) (by decide +kernel) rfl) (
  xval (s_iload_n (f := 1) (by decide +kernel) rfl) (
  xval (s_callV (i := 102) c_M_isClass (by decide +kernel) rfl (xtt_good tw_866) rfl (tc tw_863) (tc tw_865) (tc ts_28) (tc tw_6) ⟨by decide, by decide, by decide +kernel⟩ ⟨by decide, by decide, rfl, rfl, by decide, by decide⟩ x0_e) (
  xval (s_ifeq (z := 21) (by decide +kernel) (by decide)) (
  xval (s_iload_n (f := 2) (by decide +kernel) rfl) (
  xval (s_iflt (z := 17) (by decide +kernel) (by decide)) (
  xval (s_iload_n (f := 2) (by decide +kernel) rfl) (
  xval (s_aload_n (f := 0) (by decide +kernel) rfl) (
  xval (s_getf (i := 24) (by decide +kernel) rfl tin_M (by decide) (tc tw_772)) (
  xval (s_iload_n (f := 1) (by decide +kernel) rfl) (
  xval (s_iaload (by decide +kernel)) (
  xval (s_icge (z := 7) (by decide +kernel) (by decide)) (
  xval (s_iconst (z := 1) (by decide +kernel) (by decide)) (
  xval (s_goto (z := 4) (by decide +kernel) (by decide)) (
  xval (s_iconst (z := 0) (by decide +kernel) (by decide)) (
  xval (s_zret (by decide +kernel)) (
  xval_nil))))))))))))))))
theorem c_M_isMember : xMet xCl y_M_isMember ws_M_isMember rm_M_isMember (xRun tb_M_isMember 3) := xMet.of (by decide) rfl v_M_isMember
def tb_M_named : xT := [(0, o_i (-1) 1), (1, o_istore 3 1), (2, o_i 0 1), (3, o_istore 4 2), (5, o_iload 4 2), (7, o_aload 0 1), (8, o_getf 5 1), (11, o_ic (fun a b => b ≤ a) 39), (14, o_aload 0 1), (15, o_getf 5 2), (18, o_iload 4 2), (20, o_laload), (21, o_lload 1 1), (22, o_lcmp), (23, o_ifn (fun a => a = 0) 31), (26, o_iload 4 2), (28, o_goto 32), (31, o_iload 3 1), (32, o_istore 3 1), (33, o_iinc 4 1), (36, o_goto 5), (39, o_iload 3 1), (40, o_iret)]
abbrev y_M_named : MethodName := ⟨"NameMoverModel", "named", "(J)I"⟩
abbrev rm_M_named : Room := { frames := 0, cells := 0, slots := 0, locals := 0 }
abbrev ws_M_named : List Cond := Cond.code y_M_named prog_11_method_17_code 5 (some .int) :: xtt
set_option maxRecDepth 100000 in
theorem v_M_named : ∀ q ∈ tb_M_named, xSd (0, 0) x0 xCl "NameMoverModel" ws_M_named prog_11_method_17_code 5 (some .int) rm_M_named q :=
  xval (s_iconst (z := (-1)) (by decide +kernel) (by decide)) (
  xval (s_istore_n (f := 3) (by decide +kernel) rfl (by decide)) (
  xval (s_iconst (z := 0) (by decide +kernel) (by decide)) (
  xval (s_istore (by decide +kernel) (by decide)) (
  xval (s_iload (by decide +kernel)) (
  xval (s_aload_n (f := 0) (by decide +kernel) rfl) (
  xval (s_getf (i := 99) (by decide +kernel) rfl tin_M (by decide) (tc tw_767)) (
  xval (s_icge (z := 28) (by decide +kernel) (by decide)) (
  xval (s_aload_n (f := 0) (by decide +kernel) rfl) (
  xval (s_getf (i := 7) (by decide +kernel) rfl tin_M (by decide) (tc tw_768)) (
  xval (s_iload (by decide +kernel)) (
  xval (s_laload (by decide +kernel)) (
  xval (s_lload_n (f := 1) (by decide +kernel) rfl) (
  xval (s_lcmp (by decide +kernel)) (
  xval (s_ifne (z := 8) (by decide +kernel) (by decide)) (
  xval (s_iload (by decide +kernel)) (
  xval (s_goto (z := 4) (by decide +kernel) (by decide)) (
  xval (s_iload_n (f := 3) (by decide +kernel) rfl) (
  xval (s_istore_n (f := 3) (by decide +kernel) rfl (by decide)) (
  xval (s_iinc (z := 1) (by decide +kernel) (by decide) (by decide)) (
  xval (s_goto (z := (-31)) (by decide +kernel) (by decide)) (
  xval (s_iload_n (f := 3) (by decide +kernel) rfl) (
  xval (s_iret (by decide +kernel)) (
  xval_nil)))))))))))))))))))))))
theorem c_M_named : xMet xCl y_M_named ws_M_named rm_M_named (xRun tb_M_named 5) := xMet.of (by decide) rfl v_M_named
def tb_M_isAbove : xT := [(0, o_iload 2 1), (1, o_istore 3 1), (2, o_iload 3 1), (3, o_if (fun a => a < 0) 21), (6, o_iload 3 1), (7, o_iload 1 1), (8, o_ic (fun a b => a = b) 21), (11, o_aload 0 1), (12, o_getf 5 4), (15, o_iload 3 1), (16, o_iaload), (17, o_istore 3 1), (18, o_goto 2), (21, o_iload 3 1), (22, o_iload 1 1), (23, o_icn (fun a b => a = b) 30), (26, o_i 1 1), (27, o_goto 31), (30, o_i 0 1), (31, o_zret)]
abbrev y_M_isAbove : MethodName := ⟨"NameMoverModel", "isAbove", "(II)Z"⟩
abbrev rm_M_isAbove : Room := { frames := 0, cells := 0, slots := 0, locals := 0 }
abbrev ws_M_isAbove : List Cond := Cond.code y_M_isAbove prog_11_method_18_code 4 (some .boolean) :: xtt
set_option maxRecDepth 100000 in
theorem v_M_isAbove : ∀ q ∈ tb_M_isAbove, xSd (0, 0) x0 xCl "NameMoverModel" ws_M_isAbove prog_11_method_18_code 4 (some .boolean) rm_M_isAbove q :=
  xval (s_iload_n (f := 2) (by decide +kernel) rfl) (
  xval (s_istore_n (f := 3) (by decide +kernel) rfl (by decide)) (
  xval (s_iload_n (f := 3) (by decide +kernel) rfl) (
  xval (s_iflt (z := 18) (by decide +kernel) (by decide)) (
  xval (s_iload_n (f := 3) (by decide +kernel) rfl) (
  xval (s_iload_n (f := 1) (by decide +kernel) rfl) (
  xval (s_iceq (z := 13) (by decide +kernel) (by decide)) (
  xval (s_aload_n (f := 0) (by decide +kernel) rfl) (
  xval (s_getf (i := 16) (by decide +kernel) rfl tin_M (by decide) (tc tw_770)) (
  xval (s_iload_n (f := 3) (by decide +kernel) rfl) (
  xval (s_iaload (by decide +kernel)) (
  xval (s_istore_n (f := 3) (by decide +kernel) rfl (by decide)) (
  xval (s_goto (z := (-16)) (by decide +kernel) (by decide)) (
  xval (s_iload_n (f := 3) (by decide +kernel) rfl) (
  xval (s_iload_n (f := 1) (by decide +kernel) rfl) (
  xval (s_icne (z := 7) (by decide +kernel) (by decide)) (
  xval (s_iconst (z := 1) (by decide +kernel) (by decide)) (
  xval (s_goto (z := 4) (by decide +kernel) (by decide)) (
  xval (s_iconst (z := 0) (by decide +kernel) (by decide)) (
  xval (s_zret (by decide +kernel)) (
  xval_nil))))))))))))))))))))
theorem c_M_isAbove : xMet xCl y_M_isAbove ws_M_isAbove rm_M_isAbove (xRun tb_M_isAbove 4) := xMet.of (by decide) rfl v_M_isAbove
def tb_M_areRelated : xT := [(0, o_aload 0 1), (1, o_iload 1 1), (2, o_iload 2 1), (3, o_callV (xRun tb_M_isAbove 4) 5 2 0 0), (6, o_ifn (fun a => a = 0) 18), (9, o_aload 0 1), (10, o_iload 2 1), (11, o_iload 1 1), (12, o_callV (xRun tb_M_isAbove 4) 5 2 0 0), (15, o_if (fun a => a = 0) 22), (18, o_i 1 1), (19, o_goto 23), (22, o_i 0 1), (23, o_zret)]
abbrev y_M_areRelated : MethodName := ⟨"NameMoverModel", "areRelated", "(II)Z"⟩
abbrev rm_M_areRelated : Room := { frames := 1, cells := 0, slots := 0, locals := 23 }
abbrev ws_M_areRelated : List Cond := Cond.code y_M_areRelated prog_11_method_19_code 3 (some .boolean) :: xtt
set_option maxRecDepth 100000 in
theorem v_M_areRelated : ∀ q ∈ tb_M_areRelated, xSd (0, 0) x0 xCl "NameMoverModel" ws_M_areRelated prog_11_method_19_code 3 (some .boolean) rm_M_areRelated q :=
  xval (s_aload_n (f := 0) (by decide +kernel) rfl) (
  xval (s_iload_n (f := 1) (by decide +kernel) rfl) (
  xval (s_iload_n (f := 2) (by decide +kernel) rfl) (
  xval (s_callV (i := 105) c_M_isAbove (by decide +kernel) rfl (xtt_good tw_947) rfl (tc tw_944) (tc tw_946) (tc ts_41) (tc tw_6) ⟨by decide, by decide, by decide +kernel⟩ ⟨by decide, by decide, rfl, rfl, by decide, by decide⟩ x0_e) (
  xval (s_ifne (z := 12) (by decide +kernel) (by decide)) (
  xval (s_aload_n (f := 0) (by decide +kernel) rfl) (
  xval (s_iload_n (f := 2) (by decide +kernel) rfl) (
  xval (s_iload_n (f := 1) (by decide +kernel) rfl) (
  xval (s_callV (i := 105) c_M_isAbove (by decide +kernel) rfl (xtt_good tw_947) rfl (tc tw_944) (tc tw_946) (tc ts_41) (tc tw_6) ⟨by decide, by decide, by decide +kernel⟩ ⟨by decide, by decide, rfl, rfl, by decide, by decide⟩ x0_e) (
  xval (s_ifeq (z := 7) (by decide +kernel) (by decide)) (
  xval (s_iconst (z := 1) (by decide +kernel) (by decide)) (
  xval (s_goto (z := 4) (by decide +kernel) (by decide)) (
  xval (s_iconst (z := 0) (by decide +kernel) (by decide)) (
  xval (s_zret (by decide +kernel)) (
  xval_nil))))))))))))))
theorem c_M_areRelated : xMet xCl y_M_areRelated ws_M_areRelated rm_M_areRelated (xRun tb_M_areRelated 3) := xMet.of (by decide) rfl v_M_areRelated
def tb_M_moves : xT := [(0, o_i 0 1), (1, o_istore 1 1), (2, o_i 0 1), (3, o_istore 2 1), (4, o_iload 2 1), (5, o_aload 0 1), (6, o_getf 5 1), (9, o_ic (fun a b => b ≤ a) 92), (12, o_iload 1 1), (13, o_aload 0 1), (14, o_getf 5 2), (17, o_iload 2 1), (18, o_laload), (19, o_aload 0 1), (20, o_getf 5 3), (23, o_iload 2 1), (24, o_laload), (25, o_lcmp), (26, o_if (fun a => a = 0) 33), (29, o_i 1 1), (30, o_goto 34), (33, o_i 0 1), (34, o_ii (fun a b => a + b)), (35, o_istore 1 1), (36, o_i 8 2), (38, o_iload 2 1), (39, o_ii (fun a b => a * b)), (40, o_istore 3 1), (41, o_iload 3 1), (42, o_i 8 2), (44, o_iload 2 1), (45, o_ii (fun a b => a * b)), (46, o_aload 0 1), (47, o_getf 5 6), (50, o_iload 2 1), (51, o_iaload), (52, o_ii (fun a b => a + b)), (53, o_ic (fun a b => b ≤ a) 86), (56, o_iload 1 1), (57, o_aload 0 1), (58, o_getf 5 7), (61, o_iload 3 1), (62, o_laload), (63, o_aload 0 1), (64, o_getf 5 8), (67, o_iload 3 1), (68, o_laload), (69, o_lcmp), (70, o_if (fun a => a = 0) 77), (73, o_i 1 1), (74, o_goto 78), (77, o_i 0 1), (78, o_ii (fun a b => a + b)), (79, o_istore 1 1), (80, o_iinc 3 1), (83, o_goto 41), (86, o_iinc 2 1), (89, o_goto 4), (92, o_iload 1 1), (93, o_iret)]
abbrev y_M_moves : MethodName := ⟨"NameMoverModel", "moves", "()I"⟩
abbrev rm_M_moves : Room := { frames := 0, cells := 0, slots := 0, locals := 0 }
abbrev ws_M_moves : List Cond := Cond.code y_M_moves prog_11_method_20_code 4 (some .int) :: xtt
set_option maxRecDepth 100000 in
theorem v_M_moves : ∀ q ∈ tb_M_moves, xSd (0, 0) x0 xCl "NameMoverModel" ws_M_moves prog_11_method_20_code 4 (some .int) rm_M_moves q :=
  xval (s_iconst (z := 0) (by decide +kernel) (by decide)) (
  xval (s_istore_n (f := 1) (by decide +kernel) rfl (by decide)) (
  xval (s_iconst (z := 0) (by decide +kernel) (by decide)) (
  xval (s_istore_n (f := 2) (by decide +kernel) rfl (by decide)) (
  xval (s_iload_n (f := 2) (by decide +kernel) rfl) (
  xval (s_aload_n (f := 0) (by decide +kernel) rfl) (
  xval (s_getf (i := 99) (by decide +kernel) rfl tin_M (by decide) (tc tw_767)) (
  xval (s_icge (z := 83) (by decide +kernel) (by decide)) (
  xval (s_iload_n (f := 1) (by decide +kernel) rfl) (
  xval (s_aload_n (f := 0) (by decide +kernel) rfl) (
  xval (s_getf (i := 7) (by decide +kernel) rfl tin_M (by decide) (tc tw_768)) (
  xval (s_iload_n (f := 2) (by decide +kernel) rfl) (
  xval (s_laload (by decide +kernel)) (
  xval (s_aload_n (f := 0) (by decide +kernel) rfl) (
  xval (s_getf (i := 13) (by decide +kernel) rfl tin_M (by decide) (tc tw_769)) (
  xval (s_iload_n (f := 2) (by decide +kernel) rfl) (
  xval (s_laload (by decide +kernel)) (
  xval (s_lcmp (by decide +kernel)) (
  xval (s_ifeq (z := 7) (by decide +kernel) (by decide)) (
  xval (s_iconst (z := 1) (by decide +kernel) (by decide)) (
  xval (s_goto (z := 4) (by decide +kernel) (by decide)) (
  xval (s_iconst (z := 0) (by decide +kernel) (by decide)) (
  xval (s_iadd (by decide +kernel)) (
  xval (s_istore_n (f := 1) (by decide +kernel) rfl (by decide)) (
  xval (s_bipush (z := 8) (by decide +kernel) (by decide)) (
  xval (s_iload_n (f := 2) (by decide +kernel) rfl) (
  xval (s_imul (by decide +kernel)) (
  xval (s_istore_n (f := 3) (by decide +kernel) rfl (by decide)) (
  xval (s_iload_n (f := 3) (by decide +kernel) rfl) (
  xval (s_bipush (z := 8) (by decide +kernel) (by decide)) (
  xval (s_iload_n (f := 2) (by decide +kernel) rfl) (
  xval (s_imul (by decide +kernel)) (
  xval (s_aload_n (f := 0) (by decide +kernel) rfl) (
  xval (s_getf (i := 24) (by decide +kernel) rfl tin_M (by decide) (tc tw_772)) (
  xval (s_iload_n (f := 2) (by decide +kernel) rfl) (
  xval (s_iaload (by decide +kernel)) (
  xval (s_iadd (by decide +kernel)) (
  xval (s_icge (z := 33) (by decide +kernel) (by decide)) (
  xval (s_iload_n (f := 1) (by decide +kernel) rfl) (
  xval (s_aload_n (f := 0) (by decide +kernel) rfl) (
  xval (s_getf (i := 27) (by decide +kernel) rfl tin_M (by decide) (tc tw_773)) (
  xval (s_iload_n (f := 3) (by decide +kernel) rfl) (
  xval (s_laload (by decide +kernel)) (
  xval (s_aload_n (f := 0) (by decide +kernel) rfl) (
  xval (s_getf (i := 30) (by decide +kernel) rfl tin_M (by decide) (tc tw_774)) (
  xval (s_iload_n (f := 3) (by decide +kernel) rfl) (
  xval (s_laload (by decide +kernel)) (
  xval (s_lcmp (by decide +kernel)) (
  xval (s_ifeq (z := 7) (by decide +kernel) (by decide)) (
  xval (s_iconst (z := 1) (by decide +kernel) (by decide)) (
  xval (s_goto (z := 4) (by decide +kernel) (by decide)) (
  xval (s_iconst (z := 0) (by decide +kernel) (by decide)) (
  xval (s_iadd (by decide +kernel)) (
  xval (s_istore_n (f := 1) (by decide +kernel) rfl (by decide)) (
  xval (s_iinc (z := 1) (by decide +kernel) (by decide) (by decide)) (
  xval (s_goto (z := (-42)) (by decide +kernel) (by decide)) (
  xval (s_iinc (z := 1) (by decide +kernel) (by decide) (by decide)) (
  xval (s_goto (z := (-85)) (by decide +kernel) (by decide)) (
  xval (s_iload_n (f := 1) (by decide +kernel) rfl) (
  xval (s_iret (by decide +kernel)) (
  xval_nil))))))))))))))))))))))))))))))))))))))))))))))))))))))))))))
theorem c_M_moves : xMet xCl y_M_moves ws_M_moves rm_M_moves (xRun tb_M_moves 4) := xMet.of (by decide) rfl v_M_moves
def tb_M_put : xT := [(0, o_aload 0 1), (1, o_getf 5 2), (4, o_aload 0 1), (5, o_getf 5 1), (8, o_lload 1 1), (9, o_lastore), (10, o_aload 0 1), (11, o_getf 5 3), (14, o_aload 0 1), (15, o_getf 5 1), (18, o_lload 1 1), (19, o_lastore), (20, o_aload 0 1), (21, o_getf 5 4), (24, o_aload 0 1), (25, o_getf 5 1), (28, o_iload 3 1), (29, o_iastore), (30, o_aload 0 1), (31, o_getf 5 5), (34, o_aload 0 1), (35, o_getf 5 1), (38, o_iload 4 2), (40, o_bastore), (41, o_aload 0 1), (42, o_getf 5 6), (45, o_aload 0 1), (46, o_getf 5 1), (49, o_i 0 1), (50, o_iastore), (51, o_vret)]
abbrev y_M_put : MethodName := ⟨"NameMoverModel", "put", "(JIZ)V"⟩
abbrev rm_M_put : Room := { frames := 0, cells := 0, slots := 0, locals := 0 }
abbrev ws_M_put : List Cond := Cond.code y_M_put prog_11_method_22_code 5 (none) :: xtt
set_option maxRecDepth 100000 in
theorem v_M_put : ∀ q ∈ tb_M_put, xSd (0, 0) x0 xCl "NameMoverModel" ws_M_put prog_11_method_22_code 5 (none) rm_M_put q :=
  xval (s_aload_n (f := 0) (by decide +kernel) rfl) (
  xval (s_getf (i := 7) (by decide +kernel) rfl tin_M (by decide) (tc tw_768)) (
  xval (s_aload_n (f := 0) (by decide +kernel) rfl) (
  xval (s_getf (i := 99) (by decide +kernel) rfl tin_M (by decide) (tc tw_767)) (
  xval (s_lload_n (f := 1) (by decide +kernel) rfl) (
  xval (s_lastore (by decide +kernel)) (
  xval (s_aload_n (f := 0) (by decide +kernel) rfl) (
  xval (s_getf (i := 13) (by decide +kernel) rfl tin_M (by decide) (tc tw_769)) (
  xval (s_aload_n (f := 0) (by decide +kernel) rfl) (
  xval (s_getf (i := 99) (by decide +kernel) rfl tin_M (by decide) (tc tw_767)) (
  xval (s_lload_n (f := 1) (by decide +kernel) rfl) (
  xval (s_lastore (by decide +kernel)) (
  xval (s_aload_n (f := 0) (by decide +kernel) rfl) (
  xval (s_getf (i := 16) (by decide +kernel) rfl tin_M (by decide) (tc tw_770)) (
  xval (s_aload_n (f := 0) (by decide +kernel) rfl) (
  xval (s_getf (i := 99) (by decide +kernel) rfl tin_M (by decide) (tc tw_767)) (
  xval (s_iload_n (f := 3) (by decide +kernel) rfl) (
  xval (s_iastore (by decide +kernel)) (
  xval (s_aload_n (f := 0) (by decide +kernel) rfl) (
  xval (s_getf (i := 20) (by decide +kernel) rfl tin_M (by decide) (tc tw_771)) (
  xval (s_aload_n (f := 0) (by decide +kernel) rfl) (
  xval (s_getf (i := 99) (by decide +kernel) rfl tin_M (by decide) (tc tw_767)) (
  xval (s_iload (by decide +kernel)) (
  xval (s_bastore (by decide +kernel)) (
  xval (s_aload_n (f := 0) (by decide +kernel) rfl) (
  xval (s_getf (i := 24) (by decide +kernel) rfl tin_M (by decide) (tc tw_772)) (
  xval (s_aload_n (f := 0) (by decide +kernel) rfl) (
  xval (s_getf (i := 99) (by decide +kernel) rfl tin_M (by decide) (tc tw_767)) (
  xval (s_iconst (z := 0) (by decide +kernel) (by decide)) (
  xval (s_iastore (by decide +kernel)) (
  xval (s_vret (by decide +kernel)) (
  xval_nil)))))))))))))))))))))))))))))))
theorem c_M_put : xMet xCl y_M_put ws_M_put rm_M_put (xRun tb_M_put 5) := xMet.of (by decide) rfl v_M_put
def tb_M_declare : xT := [(0, o_aload 0 1), (1, o_lload 1 1), (2, o_i 0 1), (3, o_call (xRun tb_M_isName 8) 2 0 0), (6, o_ifn (fun a => a = 0) 13), (9, o_i 1 1), (10, o_goto 59), (13, o_iload 3 1), (14, o_i (-1) 1), (15, o_ic (fun a b => a = b) 30), (18, o_aload 0 1), (19, o_iload 3 1), (20, o_callV (xRun tb_M_isClass 2) 5 1 0 0), (23, o_ifn (fun a => a = 0) 30), (26, o_i 2 1), (27, o_goto 59), (30, o_aload 0 1), (31, o_callV (xRun tb_M_moves 4) 5 0 0 0), (34, o_if (fun a => 0 < a) 54), (37, o_aload 0 1), (38, o_getf 5 1), (41, o_i 8 2), (43, o_ic (fun a b => a = b) 54), (46, o_aload 0 1), (47, o_lload 1 1), (48, o_callV (xRun tb_M_named 5) 5 1 0 0), (51, o_if (fun a => a < 0) 58), (54, o_i 3 1), (55, o_goto 59), (58, o_i 0 1), (59, o_puti 5 0), (62, o_aload 0 1), (63, o_getf 5 0), (66, o_if (fun a => a ≤ 0) 71), (69, o_i 0 1), (70, o_iret), (71, o_aload 0 1), (72, o_lload 1 1), (73, o_iload 3 1), (74, o_iload 4 2), (76, o_callV (xRun tb_M_put 5) 5 3 0 0), (79, o_aload 0 1), (80, o_dup), (81, o_getf 5 1), (84, o_i 1 1), (85, o_ii (fun a b => a + b)), (86, o_puti 5 1), (89, o_aload 0 1), (90, o_getf 5 1), (93, o_i 1 1), (94, o_ii (fun a b => a - b)), (95, o_iret)]
abbrev y_M_declare : MethodName := ⟨"NameMoverModel", "declare", "(JIZ)I"⟩
abbrev rm_M_declare : Room := { frames := 4, cells := 0, slots := 0, locals := 95 }
abbrev ws_M_declare : List Cond := Cond.code y_M_declare prog_11_method_21_code 5 (some .int) :: xtt
set_option maxRecDepth 100000 in
theorem v_M_declare : ∀ q ∈ tb_M_declare, xSd (0, 0) x0 xCl "NameMoverModel" ws_M_declare prog_11_method_21_code 5 (some .int) rm_M_declare q :=
  xval (s_aload_n (f := 0) (by decide +kernel) rfl) (
  xval (s_lload_n (f := 1) (by decide +kernel) rfl) (
  xval (s_iconst (z := 0) (by decide +kernel) (by decide)) (
  xval (s_callS (i := 109) c_M_isName (by decide +kernel) rfl (xtt_good tw_846) (tc tw_844) (tc tw_845) (tc tw_6) ⟨by decide, by decide, by decide +kernel⟩ ⟨by decide, by decide, rfl, rfl, by decide, by decide⟩ x0_e) (
  xval (s_ifne (z := 7) (by decide +kernel) (by decide)) (
  xval (s_iconst (z := 1) (by decide +kernel) (by decide)) (
  xval (s_goto (z := 49) (by decide +kernel) (by decide)) (
  xval (s_iload_n (f := 3) (by decide +kernel) rfl) (
  xval (s_iconst (z := (-1)) (by decide +kernel) (by decide)) (
  xval (s_iceq (z := 15) (by decide +kernel) (by decide)) (
  xval (s_aload_n (f := 0) (by decide +kernel) rfl) (
  xval (s_iload_n (f := 3) (by decide +kernel) rfl) (
  xval (s_callV (i := 102) c_M_isClass (by decide +kernel) rfl (xtt_good tw_866) rfl (tc tw_863) (tc tw_865) (tc ts_28) (tc tw_6) ⟨by decide, by decide, by decide +kernel⟩ ⟨by decide, by decide, rfl, rfl, by decide, by decide⟩ x0_e) (
  xval (s_ifne (z := 7) (by decide +kernel) (by decide)) (
  xval (s_iconst (z := 2) (by decide +kernel) (by decide)) (
  xval (s_goto (z := 32) (by decide +kernel) (by decide)) (
  xval (s_aload_n (f := 0) (by decide +kernel) rfl) (
  xval (s_callV (i := 113) c_M_moves (by decide +kernel) rfl (xtt_good tw_870) rfl (tc tw_867) (tc tw_869) (tc ts_29) (tc tw_6) ⟨by decide, by decide, by decide +kernel⟩ ⟨by decide, by decide, rfl, rfl, by decide, by decide⟩ x0_e) (
  xval (s_ifgt (z := 20) (by decide +kernel) (by decide)) (
  xval (s_aload_n (f := 0) (by decide +kernel) rfl) (
  xval (s_getf (i := 99) (by decide +kernel) rfl tin_M (by decide) (tc tw_767)) (
  xval (s_bipush (z := 8) (by decide +kernel) (by decide)) (
  xval (s_iceq (z := 11) (by decide +kernel) (by decide)) (
  xval (s_aload_n (f := 0) (by decide +kernel) rfl) (
  xval (s_lload_n (f := 1) (by decide +kernel) rfl) (
  xval (s_callV (i := 117) c_M_named (by decide +kernel) rfl (xtt_good tw_874) rfl (tc tw_871) (tc tw_873) (tc ts_30) (tc tw_6) ⟨by decide, by decide, by decide +kernel⟩ ⟨by decide, by decide, rfl, rfl, by decide, by decide⟩ x0_e) (
  xval (s_iflt (z := 7) (by decide +kernel) (by decide)) (
  xval (s_iconst (z := 3) (by decide +kernel) (by decide)) (
  xval (s_goto (z := 4) (by decide +kernel) (by decide)) (
  xval (s_iconst (z := 0) (by decide +kernel) (by decide)) (
  xval (s_puti (i := 60) (by decide +kernel) rfl tin_M (by decide) (tc tw_766) tM tM_ok nM rfl (by decide +kernel)) (
  xval (s_aload_n (f := 0) (by decide +kernel) rfl) (
  xval (s_getf (i := 60) (by decide +kernel) rfl tin_M (by decide) (tc tw_766)) (
  xval (s_ifle (z := 5) (by decide +kernel) (by decide)) (
  xval (s_iconst (z := 0) (by decide +kernel) (by decide)) (
  xval (s_iret (by decide +kernel)) (
  xval (s_aload_n (f := 0) (by decide +kernel) rfl) (
  xval (s_lload_n (f := 1) (by decide +kernel) rfl) (
  xval (s_iload_n (f := 3) (by decide +kernel) rfl) (
  xval (s_iload (by decide +kernel)) (
  xval (s_callV (i := 120) c_M_put (by decide +kernel) rfl (xtt_good tw_878) rfl (tc tw_875) (tc tw_877) (tc ts_31) (tc tw_6) ⟨by decide, by decide, by decide +kernel⟩ ⟨by decide, by decide, rfl, rfl, by decide, by decide⟩ x0_e) (
  xval (s_aload_n (f := 0) (by decide +kernel) rfl) (
  xval (s_dup (by decide +kernel)) (
  xval (s_getf (i := 99) (by decide +kernel) rfl tin_M (by decide) (tc tw_767)) (
  xval (s_iconst (z := 1) (by decide +kernel) (by decide)) (
  xval (s_iadd (by decide +kernel)) (
  xval (s_puti (i := 99) (by decide +kernel) rfl tin_M (by decide) (tc tw_767) tM tM_ok nM rfl (by decide +kernel)) (
  xval (s_aload_n (f := 0) (by decide +kernel) rfl) (
  xval (s_getf (i := 99) (by decide +kernel) rfl tin_M (by decide) (tc tw_767)) (
  xval (s_iconst (z := 1) (by decide +kernel) (by decide)) (
  xval (s_isub (by decide +kernel)) (
  xval (s_iret (by decide +kernel)) (
  xval_nil))))))))))))))))))))))))))))))))))))))))))))))))))))
theorem c_M_declare : xMet xCl y_M_declare ws_M_declare rm_M_declare (xRun tb_M_declare 5) := xMet.of (by decide) rfl v_M_declare
def tb_M_has : xT := [(0, o_i (-1) 1), (1, o_istore 6 2), (3, o_i 0 1), (4, o_istore 7 2), (6, o_iload 7 2), (8, o_aload 0 1), (9, o_getf 5 6), (12, o_iload 1 1), (13, o_iaload), (14, o_ic (fun a b => b ≤ a) 67), (17, o_aload 0 1), (18, o_getf 5 7), (21, o_i 8 2), (23, o_iload 1 1), (24, o_ii (fun a b => a * b)), (25, o_iload 7 2), (27, o_ii (fun a b => a + b)), (28, o_laload), (29, o_lload 2 1), (30, o_lcmp), (31, o_ifn (fun a => a = 0) 57), (34, o_aload 0 1), (35, o_getf 5 9), (38, o_i 8 2), (40, o_iload 1 1), (41, o_ii (fun a b => a * b)), (42, o_iload 7 2), (44, o_ii (fun a b => a + b)), (45, o_laload), (46, o_lload 4 2), (48, o_lcmp), (49, o_ifn (fun a => a = 0) 57), (52, o_iload 7 2), (54, o_goto 59), (57, o_iload 6 2), (59, o_istore 6 2), (61, o_iinc 7 1), (64, o_goto 6), (67, o_iload 6 2), (69, o_iret)]
abbrev y_M_has : MethodName := ⟨"NameMoverModel", "has", "(IJJ)I"⟩
abbrev rm_M_has : Room := { frames := 0, cells := 0, slots := 0, locals := 0 }
abbrev ws_M_has : List Cond := Cond.code y_M_has prog_11_method_23_code 8 (some .int) :: xtt
set_option maxRecDepth 100000 in
theorem v_M_has : ∀ q ∈ tb_M_has, xSd (0, 0) x0 xCl "NameMoverModel" ws_M_has prog_11_method_23_code 8 (some .int) rm_M_has q :=
  xval (s_iconst (z := (-1)) (by decide +kernel) (by decide)) (
  xval (s_istore (by decide +kernel) (by decide)) (
  xval (s_iconst (z := 0) (by decide +kernel) (by decide)) (
  xval (s_istore (by decide +kernel) (by decide)) (
  xval (s_iload (by decide +kernel)) (
  xval (s_aload_n (f := 0) (by decide +kernel) rfl) (
  xval (s_getf (i := 24) (by decide +kernel) rfl tin_M (by decide) (tc tw_772)) (
  xval (s_iload_n (f := 1) (by decide +kernel) rfl) (
  xval (s_iaload (by decide +kernel)) (
  xval (s_icge (z := 53) (by decide +kernel) (by decide)) (
  xval (s_aload_n (f := 0) (by decide +kernel) rfl) (
  xval (s_getf (i := 27) (by decide +kernel) rfl tin_M (by decide) (tc tw_773)) (
  xval (s_bipush (z := 8) (by decide +kernel) (by decide)) (
  xval (s_iload_n (f := 1) (by decide +kernel) rfl) (
  xval (s_imul (by decide +kernel)) (
  xval (s_iload (by decide +kernel)) (
  xval (s_iadd (by decide +kernel)) (
  xval (s_laload (by decide +kernel)) (
  xval (s_lload_n (f := 2) (by decide +kernel) rfl) (
  xval (s_lcmp (by decide +kernel)) (
  xval (s_ifne (z := 26) (by decide +kernel) (by decide)) (
  xval (s_aload_n (f := 0) (by decide +kernel) rfl) (
  xval (s_getf (i := 33) (by decide +kernel) rfl tin_M (by decide) (tc tw_775)) (
  xval (s_bipush (z := 8) (by decide +kernel) (by decide)) (
  xval (s_iload_n (f := 1) (by decide +kernel) rfl) (
  xval (s_imul (by decide +kernel)) (
  xval (s_iload (by decide +kernel)) (
  xval (s_iadd (by decide +kernel)) (
  xval (s_laload (by decide +kernel)) (
  xval (s_lload (by decide +kernel)) (
  xval (s_lcmp (by decide +kernel)) (
  xval (s_ifne (z := 8) (by decide +kernel) (by decide)) (
  xval (s_iload (by decide +kernel)) (
  xval (s_goto (z := 5) (by decide +kernel) (by decide)) (
  xval (s_iload (by decide +kernel)) (
  xval (s_istore (by decide +kernel) (by decide)) (
  xval (s_iinc (z := 1) (by decide +kernel) (by decide) (by decide)) (
  xval (s_goto (z := (-58)) (by decide +kernel) (by decide)) (
  xval (s_iload (by decide +kernel)) (
  xval (s_iret (by decide +kernel)) (
  xval_nil))))))))))))))))))))))))))))))))))))))))
theorem c_M_has : xMet xCl y_M_has ws_M_has rm_M_has (xRun tb_M_has 8) := xMet.of (by decide) rfl v_M_has
