def tb_T_lastIdentifier : xT := [(0, o_lload 0 1), (1, o_call (xRun tb_T_lastSlash 3) 1 0 0), (4, o_i 1 1), (5, o_ii (fun a b => a + b)), (6, o_istore 2 1), (7, o_iload 2 1), (8, o_i 8 2), (10, o_ic (fun a b => a < b) 17), (13, o_l 0 1), (14, o_goto 23), (17, o_lload 0 1), (18, o_i 8 2), (20, o_iload 2 1), (21, o_ii (fun a b => a * b)), (22, o_li xushr), (23, o_lret)]
abbrev y_T_lastIdentifier : MethodName := ⟨"NameMover$Text", "lastIdentifier", "(J)J"⟩
abbrev rm_T_lastIdentifier : Room := { frames := 2, cells := 0, slots := 0, locals := 44 }
abbrev ws_T_lastIdentifier : List Cond := Cond.code y_T_lastIdentifier prog_9_method_10_code 3 (some .long) :: xtt
set_option maxRecDepth 100000 in
theorem v_T_lastIdentifier : ∀ q ∈ tb_T_lastIdentifier, xSd (0, 0) x0 xCl "NameMover$Text" ws_T_lastIdentifier prog_9_method_10_code 3 (some .long) rm_T_lastIdentifier q :=
  xval (s_lload_n (f := 0) (by decide +kernel) rfl) (
  xval (s_callS (i := 28) c_T_lastSlash (by decide +kernel) rfl (xtt_good tw_219) (tc tw_217) (tc tw_218) (tc tw_7) ⟨by decide, by decide, by decide +kernel⟩ ⟨by decide, by decide, rfl, rfl, by decide, by decide⟩ x0_e) (
  xval (s_iconst (z := 1) (by decide +kernel) (by decide)) (
  xval (s_iadd (by decide +kernel)) (
  xval (s_istore_n (f := 2) (by decide +kernel) rfl (by decide)) (
  xval (s_iload_n (f := 2) (by decide +kernel) rfl) (
  xval (s_bipush (z := 8) (by decide +kernel) (by decide)) (
  xval (s_iclt (z := 7) (by decide +kernel) (by decide)) (
  xval (s_lconst (z := 0) (by decide +kernel) (by decide)) (
  xval (s_goto (z := 9) (by decide +kernel) (by decide)) (
  xval (s_lload_n (f := 0) (by decide +kernel) rfl) (
  xval (s_bipush (z := 8) (by decide +kernel) (by decide)) (
  xval (s_iload_n (f := 2) (by decide +kernel) rfl) (
  xval (s_imul (by decide +kernel)) (
  xval (s_lushr (by decide +kernel)) (
  xval (s_lret (by decide +kernel)) (
  xval_nil))))))))))))))))
theorem c_T_lastIdentifier : xMet xCl y_T_lastIdentifier ws_T_lastIdentifier rm_T_lastIdentifier (xRun tb_T_lastIdentifier 3) := xMet.of (by decide) rfl v_T_lastIdentifier
def tb_T_placed : xT := [(0, o_iload 1 1), (1, o_if (fun a => a < 0) 10), (4, o_iload 1 1), (5, o_i 8 2), (7, o_ic (fun a b => a < b) 14), (10, o_l 0 1), (11, o_goto 25), (14, o_iload 0 1), (15, o_i 255 3), (18, o_ii (fun a b => a &&& b)), (19, o_i2l), (20, o_i 8 2), (22, o_iload 1 1), (23, o_ii (fun a b => a * b)), (24, o_li xshl), (25, o_lret)]
abbrev y_T_placed : MethodName := ⟨"NameMover$Text", "placed", "(II)J"⟩
abbrev rm_T_placed : Room := { frames := 0, cells := 0, slots := 0, locals := 0 }
abbrev ws_T_placed : List Cond := Cond.code y_T_placed prog_9_method_3_code 2 (some .long) :: xtt
set_option maxRecDepth 100000 in
theorem v_T_placed : ∀ q ∈ tb_T_placed, xSd (0, 0) x0 xCl "NameMover$Text" ws_T_placed prog_9_method_3_code 2 (some .long) rm_T_placed q :=
  xval (s_iload_n (f := 1) (by decide +kernel) rfl) (
  xval (s_iflt (z := 9) (by decide +kernel) (by decide)) (
  xval (s_iload_n (f := 1) (by decide +kernel) rfl) (
  xval (s_bipush (z := 8) (by decide +kernel) (by decide)) (
  xval (s_iclt (z := 7) (by decide +kernel) (by decide)) (
  xval (s_lconst (z := 0) (by decide +kernel) (by decide)) (
  xval (s_goto (z := 14) (by decide +kernel) (by decide)) (
  xval (s_iload_n (f := 0) (by decide +kernel) rfl) (
  xval (s_sipush (z := 255) (by decide +kernel) (by decide)) (
  xval (s_iand (by decide +kernel)) (
  xval (s_i2l (by decide +kernel)) (
  xval (s_bipush (z := 8) (by decide +kernel) (by decide)) (
  xval (s_iload_n (f := 1) (by decide +kernel) rfl) (
  xval (s_imul (by decide +kernel)) (
  xval (s_lshl (by decide +kernel)) (
  xval (s_lret (by decide +kernel)) (
  xval_nil))))))))))))))))
theorem c_T_placed : xMet xCl y_T_placed ws_T_placed rm_T_placed (xRun tb_T_placed 2) := xMet.of (by decide) rfl v_T_placed
def tb_T_inPackage : xT := [(0, o_lload 0 1), (1, o_call (xRun tb_T_lastIdentifier 3) 1 0 0), (4, o_lstore 4 2), (6, o_lload 2 1), (7, o_l 0 1), (8, o_lcmp), (9, o_ifn (fun a => a = 0) 15), (12, o_lload 4 2), (14, o_lret), (15, o_lload 2 1), (16, o_call (xRun tb_T_length 3) 1 0 0), (19, o_istore 6 2), (21, o_iload 6 2), (23, o_i 1 1), (24, o_ii (fun a b => a + b)), (25, o_lload 4 2), (27, o_call (xRun tb_T_length 3) 1 0 0), (30, o_ii (fun a b => a + b)), (31, o_i 8 2), (33, o_ic (fun a b => a ≤ b) 38), (36, o_l 0 1), (37, o_lret), (38, o_lload 2 1), (39, o_i 47 2), (41, o_iload 6 2), (43, o_call (xRun tb_T_placed 2) 2 0 0), (46, o_ll (fun a b => a ||| b)), (47, o_lload 4 2), (49, o_i 8 2), (51, o_iload 6 2), (53, o_i 1 1), (54, o_ii (fun a b => a + b)), (55, o_ii (fun a b => a * b)), (56, o_li xshl), (57, o_ll (fun a b => a ||| b)), (58, o_lret)]
abbrev y_T_inPackage : MethodName := ⟨"NameMover$Text", "inPackage", "(JJ)J"⟩
abbrev rm_T_inPackage : Room := { frames := 3, cells := 0, slots := 0, locals := 66 }
abbrev ws_T_inPackage : List Cond := Cond.code y_T_inPackage prog_9_method_9_code 7 (some .long) :: xtt
set_option maxRecDepth 100000 in
theorem v_T_inPackage : ∀ q ∈ tb_T_inPackage, xSd (0, 0) x0 xCl "NameMover$Text" ws_T_inPackage prog_9_method_9_code 7 (some .long) rm_T_inPackage q :=
  xval (s_lload_n (f := 0) (by decide +kernel) rfl) (
  xval (s_callS (i := 31) c_T_lastIdentifier (by decide +kernel) rfl (xtt_good tw_483) (tc tw_481) (tc tw_482) (tc tw_7) ⟨by decide, by decide, by decide +kernel⟩ ⟨by decide, by decide, rfl, rfl, by decide, by decide⟩ x0_e) (
  xval (s_lstore (by decide +kernel) (by decide)) (
  xval (s_lload_n (f := 2) (by decide +kernel) rfl) (
  xval (s_lconst (z := 0) (by decide +kernel) (by decide)) (
  xval (s_lcmp (by decide +kernel)) (
  xval (s_ifne (z := 6) (by decide +kernel) (by decide)) (
  xval (s_lload (by decide +kernel)) (
  xval (s_lret (by decide +kernel)) (
  xval (s_lload_n (f := 2) (by decide +kernel) rfl) (
  xval (s_callS (i := 13) c_T_length (by decide +kernel) rfl (xtt_good tw_272) (tc tw_270) (tc tw_271) (tc tw_7) ⟨by decide, by decide, by decide +kernel⟩ ⟨by decide, by decide, rfl, rfl, by decide, by decide⟩ x0_e) (
  xval (s_istore (by decide +kernel) (by decide)) (
  xval (s_iload (by decide +kernel)) (
  xval (s_iconst (z := 1) (by decide +kernel) (by decide)) (
  xval (s_iadd (by decide +kernel)) (
  xval (s_lload (by decide +kernel)) (
  xval (s_callS (i := 13) c_T_length (by decide +kernel) rfl (xtt_good tw_272) (tc tw_270) (tc tw_271) (tc tw_7) ⟨by decide, by decide, by decide +kernel⟩ ⟨by decide, by decide, rfl, rfl, by decide, by decide⟩ x0_e) (
  xval (s_iadd (by decide +kernel)) (
  xval (s_bipush (z := 8) (by decide +kernel) (by decide)) (
  xval (s_icle (z := 5) (by decide +kernel) (by decide)) (
  xval (s_lconst (z := 0) (by decide +kernel) (by decide)) (
  xval (s_lret (by decide +kernel)) (
  xval (s_lload_n (f := 2) (by decide +kernel) rfl) (
  xval (s_bipush (z := 47) (by decide +kernel) (by decide)) (
  xval (s_iload (by decide +kernel)) (
  xval (s_callS (i := 35) c_T_placed (by decide +kernel) rfl (xtt_good tw_486) (tc tw_484) (tc tw_485) (tc tw_7) ⟨by decide, by decide, by decide +kernel⟩ ⟨by decide, by decide, rfl, rfl, by decide, by decide⟩ x0_e) (
  xval (s_lor (by decide +kernel)) (
  xval (s_lload (by decide +kernel)) (
  xval (s_bipush (z := 8) (by decide +kernel) (by decide)) (
  xval (s_iload (by decide +kernel)) (
  xval (s_iconst (z := 1) (by decide +kernel) (by decide)) (
  xval (s_iadd (by decide +kernel)) (
  xval (s_imul (by decide +kernel)) (
  xval (s_lshl (by decide +kernel)) (
  xval (s_lor (by decide +kernel)) (
  xval (s_lret (by decide +kernel)) (
  xval_nil))))))))))))))))))))))))))))))))))))
theorem c_T_inPackage : xMet xCl y_T_inPackage ws_T_inPackage rm_T_inPackage (xRun tb_T_inPackage 7) := xMet.of (by decide) rfl v_T_inPackage
def tb_S_fitsPackage : xT := [(0, o_i 0 1), (1, o_istore 5 2), (3, o_iload 5 2), (5, o_aload 0 1), (6, o_getf 1 10), (9, o_ic (fun a b => b ≤ a) 46), (12, o_aload 0 1), (13, o_iload 5 2), (15, o_lload 1 1), (16, o_callV (xRun tb_S_goesWithPackage 4) 1 2 0 0), (19, o_if (fun a => a = 0) 40), (22, o_aload 0 1), (23, o_getf 1 0), (26, o_iload 5 2), (28, o_laload), (29, o_lload 3 1), (30, o_call (xRun tb_T_inPackage 7) 2 0 0), (33, o_l 0 1), (34, o_lcmp), (35, o_ifn (fun a => a = 0) 40), (38, o_i 0 1), (39, o_zret), (40, o_iinc 5 1), (43, o_goto 3), (46, o_i 1 1), (47, o_zret)]
abbrev y_S_fitsPackage : MethodName := ⟨"NameMover$Store", "fitsPackage", "(JJ)Z"⟩
abbrev rm_S_fitsPackage : Room := { frames := 4, cells := 0, slots := 0, locals := 92 }
abbrev ws_S_fitsPackage : List Cond := Cond.code y_S_fitsPackage prog_8_method_21_code 6 (some .boolean) :: xtt
set_option maxRecDepth 100000 in
theorem v_S_fitsPackage : ∀ q ∈ tb_S_fitsPackage, xSd (0, 0) x0 xCl "NameMover$Store" ws_S_fitsPackage prog_8_method_21_code 6 (some .boolean) rm_S_fitsPackage q :=
  xval (s_iconst (z := 0) (by decide +kernel) (by decide)) (
  xval (s_istore (by decide +kernel) (by decide)) (
  xval (s_iload (by decide +kernel)) (
  xval (s_aload_n (f := 0) (by decide +kernel) rfl) (
  xval (s_getf (i := 42) (by decide +kernel) rfl tin_S (by decide) (tc tw_60)) (
  xval (s_icge (z := 37) (by decide +kernel) (by decide)) (
  xval (s_aload_n (f := 0) (by decide +kernel) rfl) (
  xval (s_iload (by decide +kernel)) (
  xval (s_lload_n (f := 1) (by decide +kernel) rfl) (
  xval (s_callV (i := 85) c_S_goesWithPackage (by decide +kernel) rfl (xtt_good tw_476) rfl (tc tw_473) (tc tw_475) (tc ts_2) (tc tw_2) ⟨by decide, by decide, by decide +kernel⟩ ⟨by decide, by decide, rfl, rfl, by decide, by decide⟩ x0_e) (
  xval (s_ifeq (z := 21) (by decide +kernel) (by decide)) (
  xval (s_aload_n (f := 0) (by decide +kernel) rfl) (
  xval (s_getf (i := 9) (by decide +kernel) rfl tin_S (by decide) (tc tw_33)) (
  xval (s_iload (by decide +kernel)) (
  xval (s_laload (by decide +kernel)) (
  xval (s_lload_n (f := 3) (by decide +kernel) rfl) (
  xval (s_callS (i := 89) c_T_inPackage (by decide +kernel) rfl (xtt_good tw_480) (tc tw_478) (tc tw_479) (tc tw_7) ⟨by decide, by decide, by decide +kernel⟩ ⟨by decide, by decide, rfl, rfl, by decide, by decide⟩ x0_e) (
  xval (s_lconst (z := 0) (by decide +kernel) (by decide)) (
  xval (s_lcmp (by decide +kernel)) (
  xval (s_ifne (z := 5) (by decide +kernel) (by decide)) (
  xval (s_iconst (z := 0) (by decide +kernel) (by decide)) (
  xval (s_zret (by decide +kernel)) (
  xval (s_iinc (z := 1) (by decide +kernel) (by decide) (by decide)) (
  xval (s_goto (z := (-40)) (by decide +kernel) (by decide)) (
  xval (s_iconst (z := 1) (by decide +kernel) (by decide)) (
  xval (s_zret (by decide +kernel)) (
  xval_nil))))))))))))))))))))))))))
theorem c_S_fitsPackage : xMet xCl y_S_fitsPackage ws_S_fitsPackage rm_S_fitsPackage (xRun tb_S_fitsPackage 6) := xMet.of (by decide) rfl v_S_fitsPackage
def tb_S_renamePackage : xT := [(0, o_i 0 1), (1, o_istore 5 2), (3, o_i 0 1), (4, o_istore 6 2), (6, o_iload 6 2), (8, o_aload 0 1), (9, o_getf 1 10), (12, o_ic (fun a b => b ≤ a) 52), (15, o_aload 0 1), (16, o_iload 6 2), (18, o_lload 1 1), (19, o_callV (xRun tb_S_goesWithPackage 4) 1 2 0 0), (22, o_if (fun a => a = 0) 46), (25, o_aload 0 1), (26, o_getf 1 1), (29, o_iload 6 2), (31, o_aload 0 1), (32, o_getf 1 0), (35, o_iload 6 2), (37, o_laload), (38, o_lload 3 1), (39, o_call (xRun tb_T_inPackage 7) 2 0 0), (42, o_lastore), (43, o_iinc 5 1), (46, o_iinc 6 1), (49, o_goto 6), (52, o_iload 5 2), (54, o_iret)]
abbrev y_S_renamePackage : MethodName := ⟨"NameMover$Store", "renamePackage", "(JJ)I"⟩
abbrev rm_S_renamePackage : Room := { frames := 4, cells := 0, slots := 0, locals := 92 }
abbrev ws_S_renamePackage : List Cond := Cond.code y_S_renamePackage prog_8_method_22_code 7 (some .int) :: xtt
set_option maxRecDepth 100000 in
theorem v_S_renamePackage : ∀ q ∈ tb_S_renamePackage, xSd (0, 0) x0 xCl "NameMover$Store" ws_S_renamePackage prog_8_method_22_code 7 (some .int) rm_S_renamePackage q :=
  xval (s_iconst (z := 0) (by decide +kernel) (by decide)) (
  xval (s_istore (by decide +kernel) (by decide)) (
  xval (s_iconst (z := 0) (by decide +kernel) (by decide)) (
  xval (s_istore (by decide +kernel) (by decide)) (
  xval (s_iload (by decide +kernel)) (
  xval (s_aload_n (f := 0) (by decide +kernel) rfl) (
  xval (s_getf (i := 42) (by decide +kernel) rfl tin_S (by decide) (tc tw_60)) (
  xval (s_icge (z := 40) (by decide +kernel) (by decide)) (
  xval (s_aload_n (f := 0) (by decide +kernel) rfl) (
  xval (s_iload (by decide +kernel)) (
  xval (s_lload_n (f := 1) (by decide +kernel) rfl) (
  xval (s_callV (i := 85) c_S_goesWithPackage (by decide +kernel) rfl (xtt_good tw_476) rfl (tc tw_473) (tc tw_475) (tc ts_2) (tc tw_2) ⟨by decide, by decide, by decide +kernel⟩ ⟨by decide, by decide, rfl, rfl, by decide, by decide⟩ x0_e) (
  xval (s_ifeq (z := 24) (by decide +kernel) (by decide)) (
  xval (s_aload_n (f := 0) (by decide +kernel) rfl) (
  xval (s_getf (i := 13) (by decide +kernel) rfl tin_S (by decide) (tc tw_37)) (
  xval (s_iload (by decide +kernel)) (
  xval (s_aload_n (f := 0) (by decide +kernel) rfl) (
  xval (s_getf (i := 9) (by decide +kernel) rfl tin_S (by decide) (tc tw_33)) (
  xval (s_iload (by decide +kernel)) (
  xval (s_laload (by decide +kernel)) (
  xval (s_lload_n (f := 3) (by decide +kernel) rfl) (
  xval (s_callS (i := 89) c_T_inPackage (by decide +kernel) rfl (xtt_good tw_480) (tc tw_478) (tc tw_479) (tc tw_7) ⟨by decide, by decide, by decide +kernel⟩ ⟨by decide, by decide, rfl, rfl, by decide, by decide⟩ x0_e) (
  xval (s_lastore (by decide +kernel)) (
  xval (s_iinc (z := 1) (by decide +kernel) (by decide) (by decide)) (
  xval (s_iinc (z := 1) (by decide +kernel) (by decide) (by decide)) (
  xval (s_goto (z := (-43)) (by decide +kernel) (by decide)) (
  xval (s_iload (by decide +kernel)) (
  xval (s_iret (by decide +kernel)) (
  xval_nil))))))))))))))))))))))))))))
theorem c_S_renamePackage : xMet xCl y_S_renamePackage ws_S_renamePackage rm_S_renamePackage (xRun tb_S_renamePackage 7) := xMet.of (by decide) rfl v_S_renamePackage
def tb_N_movePackage : xT := [(0, o_lload 1 1), (1, o_call (xRun tb_T_isPackage 2) 1 1 0), (4, o_if (fun a => a = 0) 26), (7, o_lload 3 1), (8, o_call (xRun tb_T_isPackage 2) 1 1 0), (11, o_if (fun a => a = 0) 26), (14, o_aload 0 1), (15, o_getf 0 0), (18, o_lload 1 1), (19, o_lload 3 1), (20, o_callV (xRun tb_S_fitsPackage 6) 1 2 1 0), (23, o_ifn (fun a => a = 0) 36), (26, o_throw 0 1), (36, o_aload 0 1), (37, o_getf 0 0), (40, o_lload 1 1), (41, o_lload 3 1), (42, o_callV (xRun tb_S_renamePackage 7) 1 2 1 0), (45, o_iret)]
abbrev y_N_movePackage : MethodName := ⟨"NameMover", "movePackage", "(JJ)I"⟩
abbrev rm_N_movePackage : Room := { frames := 6, cells := 1, slots := 6, locals := 118 }
abbrev ws_N_movePackage : List Cond := Cond.code y_N_movePackage prog_1_method_5_code 5 (some .int) :: xtt
set_option maxRecDepth 100000 in
theorem v_N_movePackage : ∀ q ∈ tb_N_movePackage, xSd (0, 0) x0 xCl "NameMover" ws_N_movePackage prog_1_method_5_code 5 (some .int) rm_N_movePackage q :=
  xval (s_lload_n (f := 1) (by decide +kernel) rfl) (
  xval (s_callS (i := 124) c_T_isPackage (by decide +kernel) rfl (xtt_good tw_468) (tc tw_466) (tc tw_467) (tc tw_7) ⟨by decide, by decide, by decide +kernel⟩ ⟨by decide, by decide, rfl, rfl, by decide, by decide⟩ x0_e) (
  xval (s_ifeq (z := 22) (by decide +kernel) (by decide)) (
  xval (s_lload_n (f := 3) (by decide +kernel) rfl) (
  xval (s_callS (i := 124) c_T_isPackage (by decide +kernel) rfl (xtt_good tw_468) (tc tw_466) (tc tw_467) (tc tw_7) ⟨by decide, by decide, by decide +kernel⟩ ⟨by decide, by decide, rfl, rfl, by decide, by decide⟩ x0_e) (
  xval (s_ifeq (z := 15) (by decide +kernel) (by decide)) (
  xval (s_aload_n (f := 0) (by decide +kernel) rfl) (
  xval (s_getf (i := 10) (by decide +kernel) rfl tin_N (by decide) (tc tw_150)) (
  xval (s_lload_n (f := 1) (by decide +kernel) rfl) (
  xval (s_lload_n (f := 3) (by decide +kernel) rfl) (
  xval (s_callV (i := 127) c_S_fitsPackage (by decide +kernel) rfl (xtt_good tw_472) rfl (tc tw_469) (tc tw_470) (tc tw_471) (tc tw_2) ⟨by decide, by decide, by decide +kernel⟩ ⟨by decide, by decide, rfl, rfl, by decide, by decide⟩ x0_e) (
  xval (s_ifne (z := 13) (by decide +kernel) (by decide)) (
  xval (s_throw (i := 51) (ik := 131) (ic := 55) (j := 7) (bs := prog_13_method_2_code) (tx := "no package, or a new name would be too long") (by decide +kernel) (by decide +kernel) (by decide +kernel) (by decide +kernel) (by decide +kernel) (tc tw_279) (tc tw_280) (tc tw_11) (tc tw_487) (by decide +kernel) (by decide +kernel) (by decide +kernel) (by decide +kernel) (by decide +kernel) (tow_0 (tc tw_322)) ⟨by decide, by decide, by decide, by decide⟩ x0_e) (
  xval (s_aload_n (f := 0) (by decide +kernel) rfl) (
  xval (s_getf (i := 10) (by decide +kernel) rfl tin_N (by decide) (tc tw_150)) (
  xval (s_lload_n (f := 1) (by decide +kernel) rfl) (
  xval (s_lload_n (f := 3) (by decide +kernel) rfl) (
  xval (s_callV (i := 133) c_S_renamePackage (by decide +kernel) rfl (xtt_good tw_491) rfl (tc tw_488) (tc tw_489) (tc tw_490) (tc tw_2) ⟨by decide, by decide, by decide +kernel⟩ ⟨by decide, by decide, rfl, rfl, by decide, by decide⟩ x0_e) (
  xval (s_iret (by decide +kernel)) (
  xval_nil)))))))))))))))))))
theorem c_N_movePackage : xMet xCl y_N_movePackage ws_N_movePackage rm_N_movePackage (xRun tb_N_movePackage 5) := xMet.of (by decide) rfl v_N_movePackage
def tb_N_requireMember : xT := [(0, o_aload 0 1), (1, o_getf 0 0), (4, o_iload 1 1), (5, o_iload 2 1), (6, o_callV (xRun tb_S_isMember 3) 1 2 1 0), (9, o_ifn (fun a => a = 0) 22), (12, o_throw 1 1), (22, o_vret)]
abbrev y_N_requireMember : MethodName := ⟨"NameMover", "requireMember", "(II)V"⟩
abbrev rm_N_requireMember : Room := { frames := 6, cells := 1, slots := 6, locals := 82 }
abbrev ws_N_requireMember : List Cond := Cond.code y_N_requireMember prog_1_method_20_code 3 (none) :: xtt
set_option maxRecDepth 100000 in
theorem v_N_requireMember : ∀ q ∈ tb_N_requireMember, xSd (0, 0) x0 xCl "NameMover" ws_N_requireMember prog_1_method_20_code 3 (none) rm_N_requireMember q :=
  xval (s_aload_n (f := 0) (by decide +kernel) rfl) (
  xval (s_getf (i := 10) (by decide +kernel) rfl tin_N (by decide) (tc tw_150)) (
  xval (s_iload_n (f := 1) (by decide +kernel) rfl) (
  xval (s_iload_n (f := 2) (by decide +kernel) rfl) (
  xval (s_callV (i := 219) c_S_isMember (by decide +kernel) rfl (xtt_good tw_199) rfl (tc tw_503) (tc tw_197) (tc tw_198) (tc tw_2) ⟨by decide, by decide, by decide +kernel⟩ ⟨by decide, by decide, rfl, rfl, by decide, by decide⟩ x0_e) (
  xval (s_ifne (z := 13) (by decide +kernel) (by decide)) (
  xval (s_throw (i := 62) (ik := 183) (ic := 66) (j := 7) (bs := prog_15_method_2_code) (tx := "no such member") (by decide +kernel) (by decide +kernel) (by decide +kernel) (by decide +kernel) (by decide +kernel) (tc tw_349) (tc tw_350) (tc tw_12) (tc tw_504) (by decide +kernel) (by decide +kernel) (by decide +kernel) (by decide +kernel) (by decide +kernel) (tow_1 (tc tw_359)) ⟨by decide, by decide, by decide, by decide⟩ x0_e) (
  xval (s_vret (by decide +kernel)) (
  xval_nil))))))))
theorem c_N_requireMember : xMet xCl y_N_requireMember ws_N_requireMember rm_N_requireMember (xRun tb_N_requireMember 3) := xMet.of (by decide) rfl v_N_requireMember
def tb_S_canOverride : xT := [(0, o_aload 0 1), (1, o_getf 1 9), (4, o_iload 1 1), (5, o_baload), (6, o_ifn (fun a => a = 0) 25), (9, o_aload 0 1), (10, o_getf 1 8), (13, o_iload 1 1), (14, o_laload), (15, o_call (xRun tb_D_isMethod 2) 1 0 0), (18, o_if (fun a => a = 0) 25), (21, o_i 1 1), (22, o_goto 26), (25, o_i 0 1), (26, o_zret)]
abbrev y_S_canOverride : MethodName := ⟨"NameMover$Store", "canOverride", "(I)Z"⟩
abbrev rm_S_canOverride : Room := { frames := 2, cells := 0, slots := 0, locals := 43 }
abbrev ws_S_canOverride : List Cond := Cond.code y_S_canOverride prog_8_method_26_code 2 (some .boolean) :: xtt
set_option maxRecDepth 100000 in
theorem v_S_canOverride : ∀ q ∈ tb_S_canOverride, xSd (0, 0) x0 xCl "NameMover$Store" ws_S_canOverride prog_8_method_26_code 2 (some .boolean) rm_S_canOverride q :=
  xval (s_aload_n (f := 0) (by decide +kernel) rfl) (
  xval (s_getf (i := 39) (by decide +kernel) rfl tin_S (by decide) (tc tw_58)) (
  xval (s_iload_n (f := 1) (by decide +kernel) rfl) (
  xval (s_baload (by decide +kernel)) (
  xval (s_ifne (z := 19) (by decide +kernel) (by decide)) (
  xval (s_aload_n (f := 0) (by decide +kernel) rfl) (
  xval (s_getf (i := 36) (by decide +kernel) rfl tin_S (by decide) (tc tw_55)) (
  xval (s_iload_n (f := 1) (by decide +kernel) rfl) (
  xval (s_laload (by decide +kernel)) (
  xval (s_callS (i := 108) c_D_isMethod (by decide +kernel) rfl (xtt_good tw_424) (tc tw_519) (tc tw_423) (tc tw_14) ⟨by decide, by decide, by decide +kernel⟩ ⟨by decide, by decide, rfl, rfl, by decide, by decide⟩ x0_e) (
  xval (s_ifeq (z := 7) (by decide +kernel) (by decide)) (
  xval (s_iconst (z := 1) (by decide +kernel) (by decide)) (
  xval (s_goto (z := 4) (by decide +kernel) (by decide)) (
  xval (s_iconst (z := 0) (by decide +kernel) (by decide)) (
  xval (s_zret (by decide +kernel)) (
  xval_nil)))))))))))))))
theorem c_S_canOverride : xMet xCl y_S_canOverride ws_S_canOverride rm_S_canOverride (xRun tb_S_canOverride 2) := xMet.of (by decide) rfl v_S_canOverride
def tb_S_isSameOrAncestor : xT := [(0, o_iload 1 1), (1, o_iload 2 1), (2, o_ic (fun a b => a = b) 19), (5, o_aload 0 1), (6, o_getf 1 5), (9, o_iload 2 1), (10, o_iaload), (11, o_iload 1 1), (12, o_ii (fun a b => a >>> (b &&& 31))), (13, o_i 1 1), (14, o_ii (fun a b => a &&& b)), (15, o_i 1 1), (16, o_icn (fun a b => a = b) 23), (19, o_i 1 1), (20, o_goto 24), (23, o_i 0 1), (24, o_zret)]
abbrev y_S_isSameOrAncestor : MethodName := ⟨"NameMover$Store", "isSameOrAncestor", "(II)Z"⟩
abbrev rm_S_isSameOrAncestor : Room := { frames := 0, cells := 0, slots := 0, locals := 0 }
abbrev ws_S_isSameOrAncestor : List Cond := Cond.code y_S_isSameOrAncestor prog_8_method_12_code 3 (some .boolean) :: xtt
set_option maxRecDepth 100000 in
theorem v_S_isSameOrAncestor : ∀ q ∈ tb_S_isSameOrAncestor, xSd (0, 0) x0 xCl "NameMover$Store" ws_S_isSameOrAncestor prog_8_method_12_code 3 (some .boolean) rm_S_isSameOrAncestor q :=
  xval (s_iload_n (f := 1) (by decide +kernel) rfl) (
  xval (s_iload_n (f := 2) (by decide +kernel) rfl) (
  xval (s_iceq (z := 17) (by decide +kernel) (by decide)) (
  xval (s_aload_n (f := 0) (by decide +kernel) rfl) (
  xval (s_getf (i := 27) (by decide +kernel) rfl tin_S (by decide) (tc tw_47)) (
  xval (s_iload_n (f := 2) (by decide +kernel) rfl) (
  xval (s_iaload (by decide +kernel)) (
  xval (s_iload_n (f := 1) (by decide +kernel) rfl) (
  xval (s_ishr (by decide +kernel)) (
  xval (s_iconst (z := 1) (by decide +kernel) (by decide)) (
  xval (s_iand (by decide +kernel)) (
  xval (s_iconst (z := 1) (by decide +kernel) (by decide)) (
  xval (s_icne (z := 7) (by decide +kernel) (by decide)) (
  xval (s_iconst (z := 1) (by decide +kernel) (by decide)) (
  xval (s_goto (z := 4) (by decide +kernel) (by decide)) (
  xval (s_iconst (z := 0) (by decide +kernel) (by decide)) (
  xval (s_zret (by decide +kernel)) (
  xval_nil)))))))))))))))))
theorem c_S_isSameOrAncestor : xMet xCl y_S_isSameOrAncestor ws_S_isSameOrAncestor rm_S_isSameOrAncestor (xRun tb_S_isSameOrAncestor 3) := xMet.of (by decide) rfl v_S_isSameOrAncestor
def tb_S_familyTop : xT := [(0, o_iload 1 1), (1, o_call (xRun tb_S_classOf 1) 1 0 0), (4, o_istore 2 1), (5, o_i 0 1), (6, o_istore 3 1), (7, o_iload 3 1), (8, o_iload 2 1), (9, o_ic (fun a b => b ≤ a) 67), (12, o_aload 0 1), (13, o_iload 3 1), (14, o_iload 2 1), (15, o_callV (xRun tb_S_isSameOrAncestor 3) 1 2 0 0), (18, o_if (fun a => a = 0) 41), (21, o_aload 0 1), (22, o_iload 3 1), (23, o_aload 0 1), (24, o_getf 1 6), (27, o_iload 1 1), (28, o_laload), (29, o_aload 0 1), (30, o_getf 1 8), (33, o_iload 1 1), (34, o_laload), (35, o_callV (xRun tb_S_ownMember 8) 1 3 0 0), (38, o_goto 42), (41, o_i (-1) 1), (42, o_istore 4 2), (44, o_iload 4 2), (46, o_i (-1) 1), (47, o_ic (fun a b => a = b) 61), (50, o_aload 0 1), (51, o_iload 4 2), (53, o_callV (xRun tb_S_canOverride 2) 1 1 0 0), (56, o_if (fun a => a = 0) 61), (59, o_iload 3 1), (60, o_iret), (61, o_iinc 3 1), (64, o_goto 7), (67, o_iload 2 1), (68, o_iret)]
abbrev y_S_familyTop : MethodName := ⟨"NameMover$Store", "familyTop", "(I)I"⟩
abbrev rm_S_familyTop : Room := { frames := 3, cells := 0, slots := 0, locals := 64 }
abbrev ws_S_familyTop : List Cond := Cond.code y_S_familyTop prog_8_method_27_code 5 (some .int) :: xtt
set_option maxRecDepth 100000 in
theorem v_S_familyTop : ∀ q ∈ tb_S_familyTop, xSd (0, 0) x0 xCl "NameMover$Store" ws_S_familyTop prog_8_method_27_code 5 (some .int) rm_S_familyTop q :=
  xval (s_iload_n (f := 1) (by decide +kernel) rfl) (
  xval (s_callS (i := 50) c_S_classOf (by decide +kernel) rfl (xtt_good tw_195) (tc tw_193) (tc tw_194) (tc tw_2) ⟨by decide, by decide, by decide +kernel⟩ ⟨by decide, by decide, rfl, rfl, by decide, by decide⟩ x0_e) (
  xval (s_istore_n (f := 2) (by decide +kernel) rfl (by decide)) (
  xval (s_iconst (z := 0) (by decide +kernel) (by decide)) (
  xval (s_istore_n (f := 3) (by decide +kernel) rfl (by decide)) (
  xval (s_iload_n (f := 3) (by decide +kernel) rfl) (
  xval (s_iload_n (f := 2) (by decide +kernel) rfl) (
  xval (s_icge (z := 58) (by decide +kernel) (by decide)) (
  xval (s_aload_n (f := 0) (by decide +kernel) rfl) (
  xval (s_iload_n (f := 3) (by decide +kernel) rfl) (
  xval (s_iload_n (f := 2) (by decide +kernel) rfl) (
  xval (s_callV (i := 62) c_S_isSameOrAncestor (by decide +kernel) rfl (xtt_good tw_235) rfl (tc tw_524) (tc tw_233) (tc tw_234) (tc tw_2) ⟨by decide, by decide, by decide +kernel⟩ ⟨by decide, by decide, rfl, rfl, by decide, by decide⟩ x0_e) (
  xval (s_ifeq (z := 23) (by decide +kernel) (by decide)) (
  xval (s_aload_n (f := 0) (by decide +kernel) rfl) (
  xval (s_iload_n (f := 3) (by decide +kernel) rfl) (
  xval (s_aload_n (f := 0) (by decide +kernel) rfl) (
  xval (s_getf (i := 30) (by decide +kernel) rfl tin_S (by decide) (tc tw_48)) (
  xval (s_iload_n (f := 1) (by decide +kernel) rfl) (
  xval (s_laload (by decide +kernel)) (
  xval (s_aload_n (f := 0) (by decide +kernel) rfl) (
  xval (s_getf (i := 36) (by decide +kernel) rfl tin_S (by decide) (tc tw_55)) (
  xval (s_iload_n (f := 1) (by decide +kernel) rfl) (
  xval (s_laload (by decide +kernel)) (
  xval (s_callV (i := 65) c_S_ownMember (by decide +kernel) rfl (xtt_good tw_443) rfl (tc tw_440) (tc tw_441) (tc tw_442) (tc tw_2) ⟨by decide, by decide, by decide +kernel⟩ ⟨by decide, by decide, rfl, rfl, by decide, by decide⟩ x0_e) (
  xval (s_goto (z := 4) (by decide +kernel) (by decide)) (
  xval (s_iconst (z := (-1)) (by decide +kernel) (by decide)) (
  xval (s_istore (by decide +kernel) (by decide)) (
  xval (s_iload (by decide +kernel)) (
  xval (s_iconst (z := (-1)) (by decide +kernel) (by decide)) (
  xval (s_iceq (z := 14) (by decide +kernel) (by decide)) (
  xval (s_aload_n (f := 0) (by decide +kernel) rfl) (
  xval (s_iload (by decide +kernel)) (
  xval (s_callV (i := 102) c_S_canOverride (by decide +kernel) rfl (xtt_good tw_518) rfl (tc tw_515) (tc tw_517) (tc ts_5) (tc tw_2) ⟨by decide, by decide, by decide +kernel⟩ ⟨by decide, by decide, rfl, rfl, by decide, by decide⟩ x0_e) (
  xval (s_ifeq (z := 5) (by decide +kernel) (by decide)) (
  xval (s_iload_n (f := 3) (by decide +kernel) rfl) (
  xval (s_iret (by decide +kernel)) (
  xval (s_iinc (z := 1) (by decide +kernel) (by decide) (by decide)) (
  xval (s_goto (z := (-57)) (by decide +kernel) (by decide)) (
  xval (s_iload_n (f := 2) (by decide +kernel) rfl) (
  xval (s_iret (by decide +kernel)) (
  xval_nil))))))))))))))))))))))))))))))))))))))))
theorem c_S_familyTop : xMet xCl y_S_familyTop ws_S_familyTop rm_S_familyTop (xRun tb_S_familyTop 5) := xMet.of (by decide) rfl v_S_familyTop
def tb_S_inOneFamily : xT := [(0, o_iload 1 1), (1, o_iload 2 1), (2, o_icn (fun a b => a = b) 7), (5, o_i 1 1), (6, o_zret), (7, o_aload 0 1), (8, o_iload 1 1), (9, o_callV (xRun tb_S_canOverride 2) 1 1 0 0), (12, o_if (fun a => a = 0) 72), (15, o_aload 0 1), (16, o_iload 2 1), (17, o_callV (xRun tb_S_canOverride 2) 1 1 0 0), (20, o_if (fun a => a = 0) 72), (23, o_aload 0 1), (24, o_getf 1 6), (27, o_iload 1 1), (28, o_laload), (29, o_aload 0 1), (30, o_getf 1 6), (33, o_iload 2 1), (34, o_laload), (35, o_lcmp), (36, o_ifn (fun a => a = 0) 72), (39, o_aload 0 1), (40, o_getf 1 8), (43, o_iload 1 1), (44, o_laload), (45, o_aload 0 1), (46, o_getf 1 8), (49, o_iload 2 1), (50, o_laload), (51, o_lcmp), (52, o_ifn (fun a => a = 0) 72), (55, o_aload 0 1), (56, o_iload 1 1), (57, o_callV (xRun tb_S_familyTop 5) 1 1 0 0), (60, o_aload 0 1), (61, o_iload 2 1), (62, o_callV (xRun tb_S_familyTop 5) 1 1 0 0), (65, o_icn (fun a b => a = b) 72), (68, o_i 1 1), (69, o_goto 73), (72, o_i 0 1), (73, o_zret)]
abbrev y_S_inOneFamily : MethodName := ⟨"NameMover$Store", "inOneFamily", "(II)Z"⟩
abbrev rm_S_inOneFamily : Room := { frames := 4, cells := 0, slots := 0, locals := 88 }
abbrev ws_S_inOneFamily : List Cond := Cond.code y_S_inOneFamily prog_8_method_25_code 3 (some .boolean) :: xtt
set_option maxRecDepth 100000 in
theorem v_S_inOneFamily : ∀ q ∈ tb_S_inOneFamily, xSd (0, 0) x0 xCl "NameMover$Store" ws_S_inOneFamily prog_8_method_25_code 3 (some .boolean) rm_S_inOneFamily q :=
  xval (s_iload_n (f := 1) (by decide +kernel) rfl) (
  xval (s_iload_n (f := 2) (by decide +kernel) rfl) (
  xval (s_icne (z := 5) (by decide +kernel) (by decide)) (
  xval (s_iconst (z := 1) (by decide +kernel) (by decide)) (
  xval (s_zret (by decide +kernel)) (
  xval (s_aload_n (f := 0) (by decide +kernel) rfl) (
  xval (s_iload_n (f := 1) (by decide +kernel) rfl) (
  xval (s_callV (i := 102) c_S_canOverride (by decide +kernel) rfl (xtt_good tw_518) rfl (tc tw_515) (tc tw_517) (tc ts_5) (tc tw_2) ⟨by decide, by decide, by decide +kernel⟩ ⟨by decide, by decide, rfl, rfl, by decide, by decide⟩ x0_e) (
  xval (s_ifeq (z := 60) (by decide +kernel) (by decide)) (
  xval (s_aload_n (f := 0) (by decide +kernel) rfl) (
  xval (s_iload_n (f := 2) (by decide +kernel) rfl) (
  xval (s_callV (i := 102) c_S_canOverride (by decide +kernel) rfl (xtt_good tw_518) rfl (tc tw_515) (tc tw_517) (tc ts_5) (tc tw_2) ⟨by decide, by decide, by decide +kernel⟩ ⟨by decide, by decide, rfl, rfl, by decide, by decide⟩ x0_e) (
  xval (s_ifeq (z := 52) (by decide +kernel) (by decide)) (
  xval (s_aload_n (f := 0) (by decide +kernel) rfl) (
  xval (s_getf (i := 30) (by decide +kernel) rfl tin_S (by decide) (tc tw_48)) (
  xval (s_iload_n (f := 1) (by decide +kernel) rfl) (
  xval (s_laload (by decide +kernel)) (
  xval (s_aload_n (f := 0) (by decide +kernel) rfl) (
  xval (s_getf (i := 30) (by decide +kernel) rfl tin_S (by decide) (tc tw_48)) (
  xval (s_iload_n (f := 2) (by decide +kernel) rfl) (
  xval (s_laload (by decide +kernel)) (
  xval (s_lcmp (by decide +kernel)) (
  xval (s_ifne (z := 36) (by decide +kernel) (by decide)) (
  xval (s_aload_n (f := 0) (by decide +kernel) rfl) (
  xval (s_getf (i := 36) (by decide +kernel) rfl tin_S (by decide) (tc tw_55)) (
  xval (s_iload_n (f := 1) (by decide +kernel) rfl) (
  xval (s_laload (by decide +kernel)) (
  xval (s_aload_n (f := 0) (by decide +kernel) rfl) (
  xval (s_getf (i := 36) (by decide +kernel) rfl tin_S (by decide) (tc tw_55)) (
  xval (s_iload_n (f := 2) (by decide +kernel) rfl) (
  xval (s_laload (by decide +kernel)) (
  xval (s_lcmp (by decide +kernel)) (
  xval (s_ifne (z := 20) (by decide +kernel) (by decide)) (
  xval (s_aload_n (f := 0) (by decide +kernel) rfl) (
  xval (s_iload_n (f := 1) (by decide +kernel) rfl) (
  xval (s_callV (i := 105) c_S_familyTop (by decide +kernel) rfl (xtt_good tw_523) rfl (tc tw_520) (tc tw_522) (tc ts_6) (tc tw_2) ⟨by decide, by decide, by decide +kernel⟩ ⟨by decide, by decide, rfl, rfl, by decide, by decide⟩ x0_e) (
  xval (s_aload_n (f := 0) (by decide +kernel) rfl) (
  xval (s_iload_n (f := 2) (by decide +kernel) rfl) (
  xval (s_callV (i := 105) c_S_familyTop (by decide +kernel) rfl (xtt_good tw_523) rfl (tc tw_520) (tc tw_522) (tc ts_6) (tc tw_2) ⟨by decide, by decide, by decide +kernel⟩ ⟨by decide, by decide, rfl, rfl, by decide, by decide⟩ x0_e) (
  xval (s_icne (z := 7) (by decide +kernel) (by decide)) (
  xval (s_iconst (z := 1) (by decide +kernel) (by decide)) (
  xval (s_goto (z := 4) (by decide +kernel) (by decide)) (
  xval (s_iconst (z := 0) (by decide +kernel) (by decide)) (
  xval (s_zret (by decide +kernel)) (
  xval_nil))))))))))))))))))))))))))))))))))))))))))))
theorem c_S_inOneFamily : xMet xCl y_S_inOneFamily ws_S_inOneFamily rm_S_inOneFamily (xRun tb_S_inOneFamily 3) := xMet.of (by decide) rfl v_S_inOneFamily
def tb_S_renameFamily : xT := [(0, o_i 0 1), (1, o_istore 4 2), (3, o_i 0 1), (4, o_istore 5 2), (6, o_iload 5 2), (8, o_aload 0 1), (9, o_callV (xRun tb_S_numbersEnd 1) 1 0 0 0), (12, o_ic (fun a b => b ≤ a) 51), (15, o_aload 0 1), (16, o_iload 5 2), (18, o_callV (xRun tb_S_isMemberNumber 2) 1 1 0 0), (21, o_if (fun a => a = 0) 45), (24, o_aload 0 1), (25, o_iload 1 1), (26, o_iload 5 2), (28, o_callV (xRun tb_S_inOneFamily 3) 1 2 0 0), (31, o_if (fun a => a = 0) 45), (34, o_aload 0 1), (35, o_getf 1 7), (38, o_iload 5 2), (40, o_lload 2 1), (41, o_lastore), (42, o_iinc 4 1), (45, o_iinc 5 1), (48, o_goto 6), (51, o_iload 4 2), (53, o_iret)]
abbrev y_S_renameFamily : MethodName := ⟨"NameMover$Store", "renameFamily", "(IJ)I"⟩
abbrev rm_S_renameFamily : Room := { frames := 5, cells := 0, slots := 0, locals := 110 }
abbrev ws_S_renameFamily : List Cond := Cond.code y_S_renameFamily prog_8_method_24_code 6 (some .int) :: xtt
set_option maxRecDepth 100000 in
theorem v_S_renameFamily : ∀ q ∈ tb_S_renameFamily, xSd (0, 0) x0 xCl "NameMover$Store" ws_S_renameFamily prog_8_method_24_code 6 (some .int) rm_S_renameFamily q :=
  xval (s_iconst (z := 0) (by decide +kernel) (by decide)) (
  xval (s_istore (by decide +kernel) (by decide)) (
  xval (s_iconst (z := 0) (by decide +kernel) (by decide)) (
  xval (s_istore (by decide +kernel) (by decide)) (
  xval (s_iload (by decide +kernel)) (
  xval (s_aload_n (f := 0) (by decide +kernel) rfl) (
  xval (s_callV (i := 73) c_S_numbersEnd (by decide +kernel) rfl (xtt_good tw_188) rfl (tc tw_244) (tc tw_186) (tc tw_187) (tc tw_2) ⟨by decide, by decide, by decide +kernel⟩ ⟨by decide, by decide, rfl, rfl, by decide, by decide⟩ x0_e) (
  xval (s_icge (z := 39) (by decide +kernel) (by decide)) (
  xval (s_aload_n (f := 0) (by decide +kernel) rfl) (
  xval (s_iload (by decide +kernel)) (
  xval (s_callV (i := 76) c_S_isMemberNumber (by decide +kernel) rfl (xtt_good tw_192) rfl (tc tw_245) (tc tw_190) (tc tw_191) (tc tw_2) ⟨by decide, by decide, by decide +kernel⟩ ⟨by decide, by decide, rfl, rfl, by decide, by decide⟩ x0_e) (
  xval (s_ifeq (z := 24) (by decide +kernel) (by decide)) (
  xval (s_aload_n (f := 0) (by decide +kernel) rfl) (
  xval (s_iload_n (f := 1) (by decide +kernel) rfl) (
  xval (s_iload (by decide +kernel)) (
  xval (s_callV (i := 99) c_S_inOneFamily (by decide +kernel) rfl (xtt_good tw_514) rfl (tc tw_511) (tc tw_513) (tc ts_4) (tc tw_2) ⟨by decide, by decide, by decide +kernel⟩ ⟨by decide, by decide, rfl, rfl, by decide, by decide⟩ x0_e) (
  xval (s_ifeq (z := 14) (by decide +kernel) (by decide)) (
  xval (s_aload_n (f := 0) (by decide +kernel) rfl) (
  xval (s_getf (i := 33) (by decide +kernel) rfl tin_S (by decide) (tc tw_52)) (
  xval (s_iload (by decide +kernel)) (
  xval (s_lload_n (f := 2) (by decide +kernel) rfl) (
  xval (s_lastore (by decide +kernel)) (
  xval (s_iinc (z := 1) (by decide +kernel) (by decide) (by decide)) (
  xval (s_iinc (z := 1) (by decide +kernel) (by decide) (by decide)) (
  xval (s_goto (z := (-42)) (by decide +kernel) (by decide)) (
  xval (s_iload (by decide +kernel)) (
  xval (s_iret (by decide +kernel)) (
  xval_nil)))))))))))))))))))))))))))
theorem c_S_renameFamily : xMet xCl y_S_renameFamily ws_S_renameFamily rm_S_renameFamily (xRun tb_S_renameFamily 6) := xMet.of (by decide) rfl v_S_renameFamily
def tb_N_moveMember : xT := [(0, o_aload 0 1), (1, o_iload 1 1), (2, o_iload 2 1), (3, o_callV (xRun tb_N_requireMember 3) 0 2 1 1), (6, o_lload 3 1), (7, o_call (xRun tb_T_isIdentifier 2) 1 1 0), (10, o_ifn (fun a => a = 0) 23), (13, o_throw 0 1), (23, o_aload 0 1), (24, o_getf 0 0), (27, o_iload 1 1), (28, o_iload 2 1), (29, o_call (xRun tb_S_number 2) 2 1 0), (32, o_lload 3 1), (33, o_callV (xRun tb_S_renameFamily 6) 1 2 1 0), (36, o_iret)]
abbrev y_N_moveMember : MethodName := ⟨"NameMover", "moveMember", "(IIJ)I"⟩
abbrev rm_N_moveMember : Room := { frames := 7, cells := 1, slots := 6, locals := 135 }
abbrev ws_N_moveMember : List Cond := Cond.code y_N_moveMember prog_1_method_6_code 5 (some .int) :: xtt
set_option maxRecDepth 100000 in
theorem v_N_moveMember : ∀ q ∈ tb_N_moveMember, xSd (0, 0) x0 xCl "NameMover" ws_N_moveMember prog_1_method_6_code 5 (some .int) rm_N_moveMember q :=
  xval (s_aload_n (f := 0) (by decide +kernel) rfl) (
  xval (s_iload_n (f := 1) (by decide +kernel) rfl) (
  xval (s_iload_n (f := 2) (by decide +kernel) rfl) (
  xval (s_callV (i := 137) c_N_requireMember (by decide +kernel) rfl (xtt_good tw_502) rfl (tc tw_499) (tc tw_501) (tc ts_3) (tc tw_1) ⟨by decide, by decide, by decide +kernel⟩ ⟨by decide, by decide, rfl, rfl, by decide, by decide⟩ x0_e) (
  xval (s_lload_n (f := 3) (by decide +kernel) rfl) (
  xval (s_callS (i := 99) c_T_isIdentifier (by decide +kernel) rfl (xtt_good tw_416) (tc tw_414) (tc tw_415) (tc tw_7) ⟨by decide, by decide, by decide +kernel⟩ ⟨by decide, by decide, rfl, rfl, by decide, by decide⟩ x0_e) (
  xval (s_ifne (z := 13) (by decide +kernel) (by decide)) (
  xval (s_throw (i := 51) (ik := 141) (ic := 55) (j := 7) (bs := prog_13_method_2_code) (tx := "no identifier") (by decide +kernel) (by decide +kernel) (by decide +kernel) (by decide +kernel) (by decide +kernel) (tc tw_279) (tc tw_280) (tc tw_11) (tc tw_505) (by decide +kernel) (by decide +kernel) (by decide +kernel) (by decide +kernel) (by decide +kernel) (tow_0 (tc tw_322)) ⟨by decide, by decide, by decide, by decide⟩ x0_e) (
  xval (s_aload_n (f := 0) (by decide +kernel) rfl) (
  xval (s_getf (i := 10) (by decide +kernel) rfl tin_N (by decide) (tc tw_150)) (
  xval (s_iload_n (f := 1) (by decide +kernel) rfl) (
  xval (s_iload_n (f := 2) (by decide +kernel) rfl) (
  xval (s_callS (i := 143) c_S_number (by decide +kernel) rfl (xtt_good tw_446) (tc tw_506) (tc tw_445) (tc tw_2) ⟨by decide, by decide, by decide +kernel⟩ ⟨by decide, by decide, rfl, rfl, by decide, by decide⟩ x0_e) (
  xval (s_lload_n (f := 3) (by decide +kernel) rfl) (
  xval (s_callV (i := 147) c_S_renameFamily (by decide +kernel) rfl (xtt_good tw_510) rfl (tc tw_507) (tc tw_508) (tc tw_509) (tc tw_2) ⟨by decide, by decide, by decide +kernel⟩ ⟨by decide, by decide, rfl, rfl, by decide, by decide⟩ x0_e) (
  xval (s_iret (by decide +kernel)) (
  xval_nil))))))))))))))))
theorem c_N_moveMember : xMet xCl y_N_moveMember ws_N_moveMember rm_N_moveMember (xRun tb_N_moveMember 5) := xMet.of (by decide) rfl v_N_moveMember
def tb_P_told : xT := [(0, o_i 10000 3), (3, o_iload 0 1), (4, o_ii (fun a b => a * b)), (5, o_i 100 2), (7, o_iload 1 1), (8, o_ii (fun a b => a * b)), (9, o_ii (fun a b => a + b)), (10, o_iload 2 1), (11, o_ii (fun a b => a + b)), (12, o_iret)]
abbrev y_P_told : MethodName := ⟨"NameMover$Problems", "told", "(III)I"⟩
abbrev rm_P_told : Room := { frames := 0, cells := 0, slots := 0, locals := 0 }
abbrev ws_P_told : List Cond := Cond.code y_P_told prog_7_method_3_code 3 (some .int) :: xtt
set_option maxRecDepth 100000 in
theorem v_P_told : ∀ q ∈ tb_P_told, xSd (0, 0) x0 xCl "NameMover$Problems" ws_P_told prog_7_method_3_code 3 (some .int) rm_P_told q :=
  xval (s_sipush (z := 10000) (by decide +kernel) (by decide)) (
  xval (s_iload_n (f := 0) (by decide +kernel) rfl) (
  xval (s_imul (by decide +kernel)) (
  xval (s_bipush (z := 100) (by decide +kernel) (by decide)) (
  xval (s_iload_n (f := 1) (by decide +kernel) rfl) (
  xval (s_imul (by decide +kernel)) (
  xval (s_iadd (by decide +kernel)) (
  xval (s_iload_n (f := 2) (by decide +kernel) rfl) (
  xval (s_iadd (by decide +kernel)) (
  xval (s_iret (by decide +kernel)) (
  xval_nil))))))))))
theorem c_P_told : xMet xCl y_P_told ws_P_told rm_P_told (xRun tb_P_told 3) := xMet.of (by decide) rfl v_P_told
def tb_P_libraryClass : xT := [(0, o_i 0 1), (1, o_istore 1 1), (2, o_iload 1 1), (3, o_aload 0 1), (4, o_getf 1 10), (7, o_ic (fun a b => b ≤ a) 48), (10, o_aload 0 1), (11, o_getf 1 3), (14, o_iload 1 1), (15, o_baload), (16, o_if (fun a => a = 0) 42), (19, o_aload 0 1), (20, o_getf 1 1), (23, o_iload 1 1), (24, o_laload), (25, o_aload 0 1), (26, o_getf 1 0), (29, o_iload 1 1), (30, o_laload), (31, o_lcmp), (32, o_if (fun a => a = 0) 42), (35, o_i 1 1), (36, o_iload 1 1), (37, o_i 0 1), (38, o_call (xRun tb_P_told 3) 3 0 0), (41, o_iret), (42, o_iinc 1 1), (45, o_goto 2), (48, o_i 0 1), (49, o_iret)]
abbrev y_P_libraryClass : MethodName := ⟨"NameMover$Problems", "libraryClass", "(LNameMover$Store;)I"⟩
abbrev rm_P_libraryClass : Room := { frames := 1, cells := 0, slots := 0, locals := 22 }
abbrev ws_P_libraryClass : List Cond := Cond.code y_P_libraryClass prog_7_method_4_code 2 (some .int) :: xtt
set_option maxRecDepth 100000 in
theorem v_P_libraryClass : ∀ q ∈ tb_P_libraryClass, xSd (0, 0) x0 xCl "NameMover$Problems" ws_P_libraryClass prog_7_method_4_code 2 (some .int) rm_P_libraryClass q :=
  xval (s_iconst (z := 0) (by decide +kernel) (by decide)) (
  xval (s_istore_n (f := 1) (by decide +kernel) rfl (by decide)) (
  xval (s_iload_n (f := 1) (by decide +kernel) rfl) (
  xval (s_aload_n (f := 0) (by decide +kernel) rfl) (
  xval (s_getf (i := 25) (by decide +kernel) rfl tin_S (by decide) (tc tw_63)) (
  xval (s_icge (z := 41) (by decide +kernel) (by decide)) (
  xval (s_aload_n (f := 0) (by decide +kernel) rfl) (
  xval (s_getf (i := 31) (by decide +kernel) rfl tin_S (by decide) (tc tw_44)) (
  xval (s_iload_n (f := 1) (by decide +kernel) rfl) (
  xval (s_baload (by decide +kernel)) (
  xval (s_ifeq (z := 26) (by decide +kernel) (by decide)) (
  xval (s_aload_n (f := 0) (by decide +kernel) rfl) (
  xval (s_getf (i := 35) (by decide +kernel) rfl tin_S (by decide) (tc tw_38)) (
  xval (s_iload_n (f := 1) (by decide +kernel) rfl) (
  xval (s_laload (by decide +kernel)) (
  xval (s_aload_n (f := 0) (by decide +kernel) rfl) (
  xval (s_getf (i := 39) (by decide +kernel) rfl tin_S (by decide) (tc tw_35)) (
  xval (s_iload_n (f := 1) (by decide +kernel) rfl) (
  xval (s_laload (by decide +kernel)) (
  xval (s_lcmp (by decide +kernel)) (
  xval (s_ifeq (z := 10) (by decide +kernel) (by decide)) (
  xval (s_iconst (z := 1) (by decide +kernel) (by decide)) (
  xval (s_iload_n (f := 1) (by decide +kernel) rfl) (
  xval (s_iconst (z := 0) (by decide +kernel) (by decide)) (
  xval (s_callS (i := 42) c_P_told (by decide +kernel) rfl (xtt_good tw_181) (tc tw_179) (tc tw_180) (tc tw_15) ⟨by decide, by decide, by decide +kernel⟩ ⟨by decide, by decide, rfl, rfl, by decide, by decide⟩ x0_e) (
  xval (s_iret (by decide +kernel)) (
  xval (s_iinc (z := 1) (by decide +kernel) (by decide) (by decide)) (
  xval (s_goto (z := (-43)) (by decide +kernel) (by decide)) (
  xval (s_iconst (z := 0) (by decide +kernel) (by decide)) (
  xval (s_iret (by decide +kernel)) (
  xval_nil))))))))))))))))))))))))))))))
theorem c_P_libraryClass : xMet xCl y_P_libraryClass ws_P_libraryClass rm_P_libraryClass (xRun tb_P_libraryClass 2) := xMet.of (by decide) rfl v_P_libraryClass
