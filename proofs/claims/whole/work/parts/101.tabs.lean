def tb_T_lastSlash : xT := [(0, o_i 7 2), (2, o_istore 2 1), (3, o_iload 2 1), (4, o_if (fun a => a < 0) 23), (7, o_lload 0 1), (8, o_iload 2 1), (9, o_call (xRun tb_T_charAt 3) 2 0 0), (12, o_i 47 2), (14, o_ic (fun a b => a = b) 23), (17, o_iinc 2 (-1)), (20, o_goto 3), (23, o_iload 2 1), (24, o_iret)]
abbrev y_T_lastSlash : MethodName := ⟨"NameMover$Text", "lastSlash", "(J)I"⟩
abbrev rm_T_lastSlash : Room := { frames := 1, cells := 0, slots := 0, locals := 22 }
abbrev ws_T_lastSlash : List Cond := Cond.code y_T_lastSlash prog_9_method_11_code 3 (some .int) :: xtt
set_option maxRecDepth 100000 in
theorem v_T_lastSlash : ∀ q ∈ tb_T_lastSlash, xSd (0, 0) x0 xCl "NameMover$Text" ws_T_lastSlash prog_9_method_11_code 3 (some .int) rm_T_lastSlash q :=
  xval (s_bipush (z := 7) (by decide +kernel) (by decide)) (
  xval (s_istore_n (f := 2) (by decide +kernel) rfl (by decide)) (
  xval (s_iload_n (f := 2) (by decide +kernel) rfl) (
  xval (s_iflt (z := 19) (by decide +kernel) (by decide)) (
  xval (s_lload_n (f := 0) (by decide +kernel) rfl) (
  xval (s_iload_n (f := 2) (by decide +kernel) rfl) (
  xval (s_callS (i := 9) c_T_charAt (by decide +kernel) rfl (xtt_good tw_222) (tc tw_220) (tc tw_221) (tc tw_7) ⟨by decide, by decide, by decide +kernel⟩ ⟨by decide, by decide, rfl, rfl, by decide, by decide⟩ x0_e) (
  xval (s_bipush (z := 47) (by decide +kernel) (by decide)) (
  xval (s_iceq (z := 9) (by decide +kernel) (by decide)) (
  xval (s_iinc (z := (-1)) (by decide +kernel) (by decide) (by decide)) (
  xval (s_goto (z := (-17)) (by decide +kernel) (by decide)) (
  xval (s_iload_n (f := 2) (by decide +kernel) rfl) (
  xval (s_iret (by decide +kernel)) (
  xval_nil)))))))))))))
theorem c_T_lastSlash : xMet xCl y_T_lastSlash ws_T_lastSlash rm_T_lastSlash (xRun tb_T_lastSlash 3) := xMet.of (by decide) rfl v_T_lastSlash
def tb_T_isIdentifier : xT := [(0, o_lload 0 1), (1, o_call (xRun tb_T_isClassName 6) 1 0 0), (4, o_if (fun a => a = 0) 18), (7, o_lload 0 1), (8, o_call (xRun tb_T_lastSlash 3) 1 0 0), (11, o_if (fun a => 0 ≤ a) 18), (14, o_i 1 1), (15, o_goto 19), (18, o_i 0 1), (19, o_zret)]
abbrev y_T_isIdentifier : MethodName := ⟨"NameMover$Text", "isIdentifier", "(J)Z"⟩
abbrev rm_T_isIdentifier : Room := { frames := 3, cells := 0, slots := 0, locals := 69 }
abbrev ws_T_isIdentifier : List Cond := Cond.code y_T_isIdentifier prog_9_method_6_code 2 (some .boolean) :: xtt
set_option maxRecDepth 100000 in
theorem v_T_isIdentifier : ∀ q ∈ tb_T_isIdentifier, xSd (0, 0) x0 xCl "NameMover$Text" ws_T_isIdentifier prog_9_method_6_code 2 (some .boolean) rm_T_isIdentifier q :=
  xval (s_lload_n (f := 0) (by decide +kernel) rfl) (
  xval (s_callS (i := 24) c_T_isClassName (by decide +kernel) rfl (xtt_good tw_269) (tc tw_417) (tc tw_268) (tc tw_7) ⟨by decide, by decide, by decide +kernel⟩ ⟨by decide, by decide, rfl, rfl, by decide, by decide⟩ x0_e) (
  xval (s_ifeq (z := 14) (by decide +kernel) (by decide)) (
  xval (s_lload_n (f := 0) (by decide +kernel) rfl) (
  xval (s_callS (i := 28) c_T_lastSlash (by decide +kernel) rfl (xtt_good tw_219) (tc tw_217) (tc tw_218) (tc tw_7) ⟨by decide, by decide, by decide +kernel⟩ ⟨by decide, by decide, rfl, rfl, by decide, by decide⟩ x0_e) (
  xval (s_ifge (z := 7) (by decide +kernel) (by decide)) (
  xval (s_iconst (z := 1) (by decide +kernel) (by decide)) (
  xval (s_goto (z := 4) (by decide +kernel) (by decide)) (
  xval (s_iconst (z := 0) (by decide +kernel) (by decide)) (
  xval (s_zret (by decide +kernel)) (
  xval_nil))))))))))
theorem c_T_isIdentifier : xMet xCl y_T_isIdentifier ws_T_isIdentifier rm_T_isIdentifier (xRun tb_T_isIdentifier 2) := xMet.of (by decide) rfl v_T_isIdentifier
def tb_D_isMethod : xT := [(0, o_lload 0 1), (1, o_i 0 1), (2, o_call (xRun tb_T_charAt 3) 2 0 0), (5, o_i 40 2), (7, o_icn (fun a b => a = b) 14), (10, o_i 1 1), (11, o_goto 15), (14, o_i 0 1), (15, o_zret)]
abbrev y_D_isMethod : MethodName := ⟨"NameMover$Descriptor", "isMethod", "(J)Z"⟩
abbrev rm_D_isMethod : Room := { frames := 1, cells := 0, slots := 0, locals := 22 }
abbrev ws_D_isMethod : List Cond := Cond.code y_D_isMethod prog_5_method_3_code 2 (some .boolean) :: xtt
set_option maxRecDepth 100000 in
theorem v_D_isMethod : ∀ q ∈ tb_D_isMethod, xSd (0, 0) x0 xCl "NameMover$Descriptor" ws_D_isMethod prog_5_method_3_code 2 (some .boolean) rm_D_isMethod q :=
  xval (s_lload_n (f := 0) (by decide +kernel) rfl) (
  xval (s_iconst (z := 0) (by decide +kernel) (by decide)) (
  xval (s_callS (i := 27) c_T_charAt (by decide +kernel) rfl (xtt_good tw_222) (tc tw_425) (tc tw_221) (tc tw_7) ⟨by decide, by decide, by decide +kernel⟩ ⟨by decide, by decide, rfl, rfl, by decide, by decide⟩ x0_e) (
  xval (s_bipush (z := 40) (by decide +kernel) (by decide)) (
  xval (s_icne (z := 7) (by decide +kernel) (by decide)) (
  xval (s_iconst (z := 1) (by decide +kernel) (by decide)) (
  xval (s_goto (z := 4) (by decide +kernel) (by decide)) (
  xval (s_iconst (z := 0) (by decide +kernel) (by decide)) (
  xval (s_zret (by decide +kernel)) (
  xval_nil)))))))))
theorem c_D_isMethod : xMet xCl y_D_isMethod ws_D_isMethod rm_D_isMethod (xRun tb_D_isMethod 2) := xMet.of (by decide) rfl v_D_isMethod
def tb_D_isClassDigit : xT := [(0, o_iload 0 1), (1, o_i 48 2), (3, o_ic (fun a b => a < b) 18), (6, o_iload 0 1), (7, o_i 48 2), (9, o_iload 1 1), (10, o_ii (fun a b => a + b)), (11, o_ic (fun a b => b ≤ a) 18), (14, o_i 1 1), (15, o_goto 19), (18, o_i 0 1), (19, o_zret)]
abbrev y_D_isClassDigit : MethodName := ⟨"NameMover$Descriptor", "isClassDigit", "(II)Z"⟩
abbrev rm_D_isClassDigit : Room := { frames := 0, cells := 0, slots := 0, locals := 0 }
abbrev ws_D_isClassDigit : List Cond := Cond.code y_D_isClassDigit prog_5_method_4_code 2 (some .boolean) :: xtt
set_option maxRecDepth 100000 in
theorem v_D_isClassDigit : ∀ q ∈ tb_D_isClassDigit, xSd (0, 0) x0 xCl "NameMover$Descriptor" ws_D_isClassDigit prog_5_method_4_code 2 (some .boolean) rm_D_isClassDigit q :=
  xval (s_iload_n (f := 0) (by decide +kernel) rfl) (
  xval (s_bipush (z := 48) (by decide +kernel) (by decide)) (
  xval (s_iclt (z := 15) (by decide +kernel) (by decide)) (
  xval (s_iload_n (f := 0) (by decide +kernel) rfl) (
  xval (s_bipush (z := 48) (by decide +kernel) (by decide)) (
  xval (s_iload_n (f := 1) (by decide +kernel) rfl) (
  xval (s_iadd (by decide +kernel)) (
  xval (s_icge (z := 7) (by decide +kernel) (by decide)) (
  xval (s_iconst (z := 1) (by decide +kernel) (by decide)) (
  xval (s_goto (z := 4) (by decide +kernel) (by decide)) (
  xval (s_iconst (z := 0) (by decide +kernel) (by decide)) (
  xval (s_zret (by decide +kernel)) (
  xval_nil))))))))))))
theorem c_D_isClassDigit : xMet xCl y_D_isClassDigit ws_D_isClassDigit rm_D_isClassDigit (xRun tb_D_isClassDigit 2) := xMet.of (by decide) rfl v_D_isClassDigit
def tb_D_behindType : xT := [(0, o_iload 2 1), (1, o_istore 4 2), (3, o_iload 4 2), (5, o_i 8 2), (7, o_ic (fun a b => b ≤ a) 27), (10, o_lload 0 1), (11, o_iload 4 2), (13, o_call (xRun tb_T_charAt 3) 2 0 0), (16, o_i 91 2), (18, o_icn (fun a b => a = b) 27), (21, o_iinc 4 1), (24, o_goto 3), (27, o_lload 0 1), (28, o_iload 4 2), (30, o_call (xRun tb_T_charAt 3) 2 0 0), (33, o_istore 5 2), (35, o_iload 5 2), (37, o_i 73 2), (39, o_ic (fun a b => a = b) 65), (42, o_iload 5 2), (44, o_i 74 2), (46, o_ic (fun a b => a = b) 65), (49, o_iload 5 2), (51, o_i 90 2), (53, o_ic (fun a b => a = b) 65), (56, o_iload 5 2), (58, o_iload 3 1), (59, o_call (xRun tb_D_isClassDigit 2) 2 0 0), (62, o_if (fun a => a = 0) 69), (65, o_i 1 1), (66, o_goto 70), (69, o_i 0 1), (70, o_istore 6 2), (72, o_iload 6 2), (74, o_if (fun a => a = 0) 84), (77, o_iload 4 2), (79, o_i 1 1), (80, o_ii (fun a b => a + b)), (81, o_goto 85), (84, o_i (-1) 1), (85, o_iret)]
abbrev y_D_behindType : MethodName := ⟨"NameMover$Descriptor", "behindType", "(JII)I"⟩
abbrev rm_D_behindType : Room := { frames := 1, cells := 0, slots := 0, locals := 22 }
abbrev ws_D_behindType : List Cond := Cond.code y_D_behindType prog_5_method_6_code 7 (some .int) :: xtt
set_option maxRecDepth 100000 in
theorem v_D_behindType : ∀ q ∈ tb_D_behindType, xSd (0, 0) x0 xCl "NameMover$Descriptor" ws_D_behindType prog_5_method_6_code 7 (some .int) rm_D_behindType q :=
  xval (s_iload_n (f := 2) (by decide +kernel) rfl) (
  xval (s_istore (by decide +kernel) (by decide)) (
  xval (s_iload (by decide +kernel)) (
  xval (s_bipush (z := 8) (by decide +kernel) (by decide)) (
  xval (s_icge (z := 20) (by decide +kernel) (by decide)) (
  xval (s_lload_n (f := 0) (by decide +kernel) rfl) (
  xval (s_iload (by decide +kernel)) (
  xval (s_callS (i := 27) c_T_charAt (by decide +kernel) rfl (xtt_good tw_222) (tc tw_425) (tc tw_221) (tc tw_7) ⟨by decide, by decide, by decide +kernel⟩ ⟨by decide, by decide, rfl, rfl, by decide, by decide⟩ x0_e) (
  xval (s_bipush (z := 91) (by decide +kernel) (by decide)) (
  xval (s_icne (z := 9) (by decide +kernel) (by decide)) (
  xval (s_iinc (z := 1) (by decide +kernel) (by decide) (by decide)) (
  xval (s_goto (z := (-21)) (by decide +kernel) (by decide)) (
  xval (s_lload_n (f := 0) (by decide +kernel) rfl) (
  xval (s_iload (by decide +kernel)) (
  xval (s_callS (i := 27) c_T_charAt (by decide +kernel) rfl (xtt_good tw_222) (tc tw_425) (tc tw_221) (tc tw_7) ⟨by decide, by decide, by decide +kernel⟩ ⟨by decide, by decide, rfl, rfl, by decide, by decide⟩ x0_e) (
  xval (s_istore (by decide +kernel) (by decide)) (
  xval (s_iload (by decide +kernel)) (
  xval (s_bipush (z := 73) (by decide +kernel) (by decide)) (
  xval (s_iceq (z := 26) (by decide +kernel) (by decide)) (
  xval (s_iload (by decide +kernel)) (
  xval (s_bipush (z := 74) (by decide +kernel) (by decide)) (
  xval (s_iceq (z := 19) (by decide +kernel) (by decide)) (
  xval (s_iload (by decide +kernel)) (
  xval (s_bipush (z := 90) (by decide +kernel) (by decide)) (
  xval (s_iceq (z := 12) (by decide +kernel) (by decide)) (
  xval (s_iload (by decide +kernel)) (
  xval (s_iload_n (f := 3) (by decide +kernel) rfl) (
  xval (s_callS (i := 30) c_D_isClassDigit (by decide +kernel) rfl (xtt_good tw_431) (tc tw_429) (tc tw_430) (tc tw_14) ⟨by decide, by decide, by decide +kernel⟩ ⟨by decide, by decide, rfl, rfl, by decide, by decide⟩ x0_e) (
  xval (s_ifeq (z := 7) (by decide +kernel) (by decide)) (
  xval (s_iconst (z := 1) (by decide +kernel) (by decide)) (
  xval (s_goto (z := 4) (by decide +kernel) (by decide)) (
  xval (s_iconst (z := 0) (by decide +kernel) (by decide)) (
  xval (s_istore (by decide +kernel) (by decide)) (
  xval (s_iload (by decide +kernel)) (
  xval (s_ifeq (z := 10) (by decide +kernel) (by decide)) (
  xval (s_iload (by decide +kernel)) (
  xval (s_iconst (z := 1) (by decide +kernel) (by decide)) (
  xval (s_iadd (by decide +kernel)) (
  xval (s_goto (z := 4) (by decide +kernel) (by decide)) (
  xval (s_iconst (z := (-1)) (by decide +kernel) (by decide)) (
  xval (s_iret (by decide +kernel)) (
  xval_nil)))))))))))))))))))))))))))))))))))))))))
theorem c_D_behindType : xMet xCl y_D_behindType ws_D_behindType rm_D_behindType (xRun tb_D_behindType 7) := xMet.of (by decide) rfl v_D_behindType
def tb_D_behindParameters : xT := [(0, o_i 1 1), (1, o_istore 3 1), (2, o_i 0 1), (3, o_istore 4 2), (5, o_iload 4 2), (7, o_i 8 2), (9, o_ic (fun a b => b ≤ a) 46), (12, o_iload 3 1), (13, o_i (-1) 1), (14, o_icn (fun a b => a = b) 19), (17, o_i (-1) 1), (18, o_iret), (19, o_lload 0 1), (20, o_iload 3 1), (21, o_call (xRun tb_T_charAt 3) 2 0 0), (24, o_i 41 2), (26, o_icn (fun a b => a = b) 33), (29, o_iload 3 1), (30, o_i 1 1), (31, o_ii (fun a b => a + b)), (32, o_iret), (33, o_lload 0 1), (34, o_iload 3 1), (35, o_iload 2 1), (36, o_call (xRun tb_D_behindType 7) 3 0 0), (39, o_istore 3 1), (40, o_iinc 4 1), (43, o_goto 5), (46, o_i (-1) 1), (47, o_iret)]
abbrev y_D_behindParameters : MethodName := ⟨"NameMover$Descriptor", "behindParameters", "(JI)I"⟩
abbrev rm_D_behindParameters : Room := { frames := 2, cells := 0, slots := 0, locals := 48 }
abbrev ws_D_behindParameters : List Cond := Cond.code y_D_behindParameters prog_5_method_5_code 5 (some .int) :: xtt
set_option maxRecDepth 100000 in
theorem v_D_behindParameters : ∀ q ∈ tb_D_behindParameters, xSd (0, 0) x0 xCl "NameMover$Descriptor" ws_D_behindParameters prog_5_method_5_code 5 (some .int) rm_D_behindParameters q :=
  xval (s_iconst (z := 1) (by decide +kernel) (by decide)) (
  xval (s_istore_n (f := 3) (by decide +kernel) rfl (by decide)) (
  xval (s_iconst (z := 0) (by decide +kernel) (by decide)) (
  xval (s_istore (by decide +kernel) (by decide)) (
  xval (s_iload (by decide +kernel)) (
  xval (s_bipush (z := 8) (by decide +kernel) (by decide)) (
  xval (s_icge (z := 37) (by decide +kernel) (by decide)) (
  xval (s_iload_n (f := 3) (by decide +kernel) rfl) (
  xval (s_iconst (z := (-1)) (by decide +kernel) (by decide)) (
  xval (s_icne (z := 5) (by decide +kernel) (by decide)) (
  xval (s_iconst (z := (-1)) (by decide +kernel) (by decide)) (
  xval (s_iret (by decide +kernel)) (
  xval (s_lload_n (f := 0) (by decide +kernel) rfl) (
  xval (s_iload_n (f := 3) (by decide +kernel) rfl) (
  xval (s_callS (i := 27) c_T_charAt (by decide +kernel) rfl (xtt_good tw_222) (tc tw_425) (tc tw_221) (tc tw_7) ⟨by decide, by decide, by decide +kernel⟩ ⟨by decide, by decide, rfl, rfl, by decide, by decide⟩ x0_e) (
  xval (s_bipush (z := 41) (by decide +kernel) (by decide)) (
  xval (s_icne (z := 7) (by decide +kernel) (by decide)) (
  xval (s_iload_n (f := 3) (by decide +kernel) rfl) (
  xval (s_iconst (z := 1) (by decide +kernel) (by decide)) (
  xval (s_iadd (by decide +kernel)) (
  xval (s_iret (by decide +kernel)) (
  xval (s_lload_n (f := 0) (by decide +kernel) rfl) (
  xval (s_iload_n (f := 3) (by decide +kernel) rfl) (
  xval (s_iload_n (f := 2) (by decide +kernel) rfl) (
  xval (s_callS (i := 19) c_D_behindType (by decide +kernel) rfl (xtt_good tw_428) (tc tw_426) (tc tw_427) (tc tw_14) ⟨by decide, by decide, by decide +kernel⟩ ⟨by decide, by decide, rfl, rfl, by decide, by decide⟩ x0_e) (
  xval (s_istore_n (f := 3) (by decide +kernel) rfl (by decide)) (
  xval (s_iinc (z := 1) (by decide +kernel) (by decide) (by decide)) (
  xval (s_goto (z := (-38)) (by decide +kernel) (by decide)) (
  xval (s_iconst (z := (-1)) (by decide +kernel) (by decide)) (
  xval (s_iret (by decide +kernel)) (
  xval_nil))))))))))))))))))))))))))))))
theorem c_D_behindParameters : xMet xCl y_D_behindParameters ws_D_behindParameters rm_D_behindParameters (xRun tb_D_behindParameters 5) := xMet.of (by decide) rfl v_D_behindParameters
def tb_D_isOne : xT := [(0, o_lload 0 1), (1, o_call (xRun tb_T_length 3) 1 0 0), (4, o_istore 3 1), (5, o_lload 0 1), (6, o_call (xRun tb_D_isMethod 2) 1 0 0), (9, o_ifn (fun a => a = 0) 28), (12, o_lload 0 1), (13, o_i 0 1), (14, o_iload 2 1), (15, o_call (xRun tb_D_behindType 7) 3 0 0), (18, o_iload 3 1), (19, o_icn (fun a b => a = b) 26), (22, o_i 1 1), (23, o_goto 27), (26, o_i 0 1), (27, o_zret), (28, o_lload 0 1), (29, o_iload 2 1), (30, o_call (xRun tb_D_behindParameters 5) 2 0 0), (33, o_istore 4 2), (35, o_iload 4 2), (37, o_i (-1) 1), (38, o_icn (fun a b => a = b) 43), (41, o_i 0 1), (42, o_zret), (43, o_lload 0 1), (44, o_iload 4 2), (46, o_call (xRun tb_T_charAt 3) 2 0 0), (49, o_i 86 2), (51, o_icn (fun a b => a = b) 68), (54, o_iload 4 2), (56, o_i 1 1), (57, o_ii (fun a b => a + b)), (58, o_iload 3 1), (59, o_icn (fun a b => a = b) 66), (62, o_i 1 1), (63, o_goto 67), (66, o_i 0 1), (67, o_zret), (68, o_lload 0 1), (69, o_iload 4 2), (71, o_iload 2 1), (72, o_call (xRun tb_D_behindType 7) 3 0 0), (75, o_iload 3 1), (76, o_icn (fun a b => a = b) 83), (79, o_i 1 1), (80, o_goto 84), (83, o_i 0 1), (84, o_zret)]
abbrev y_D_isOne : MethodName := ⟨"NameMover$Descriptor", "isOne", "(JI)Z"⟩
abbrev rm_D_isOne : Room := { frames := 3, cells := 0, slots := 0, locals := 72 }
abbrev ws_D_isOne : List Cond := Cond.code y_D_isOne prog_5_method_2_code 5 (some .boolean) :: xtt
set_option maxRecDepth 100000 in
theorem v_D_isOne : ∀ q ∈ tb_D_isOne, xSd (0, 0) x0 xCl "NameMover$Descriptor" ws_D_isOne prog_5_method_2_code 5 (some .boolean) rm_D_isOne q :=
  xval (s_lload_n (f := 0) (by decide +kernel) rfl) (
  xval (s_callS (i := 7) c_T_length (by decide +kernel) rfl (xtt_good tw_272) (tc tw_421) (tc tw_271) (tc tw_7) ⟨by decide, by decide, by decide +kernel⟩ ⟨by decide, by decide, rfl, rfl, by decide, by decide⟩ x0_e) (
  xval (s_istore_n (f := 3) (by decide +kernel) rfl (by decide)) (
  xval (s_lload_n (f := 0) (by decide +kernel) rfl) (
  xval (s_callS (i := 13) c_D_isMethod (by decide +kernel) rfl (xtt_good tw_424) (tc tw_422) (tc tw_423) (tc tw_14) ⟨by decide, by decide, by decide +kernel⟩ ⟨by decide, by decide, rfl, rfl, by decide, by decide⟩ x0_e) (
  xval (s_ifne (z := 19) (by decide +kernel) (by decide)) (
  xval (s_lload_n (f := 0) (by decide +kernel) rfl) (
  xval (s_iconst (z := 0) (by decide +kernel) (by decide)) (
  xval (s_iload_n (f := 2) (by decide +kernel) rfl) (
  xval (s_callS (i := 19) c_D_behindType (by decide +kernel) rfl (xtt_good tw_428) (tc tw_426) (tc tw_427) (tc tw_14) ⟨by decide, by decide, by decide +kernel⟩ ⟨by decide, by decide, rfl, rfl, by decide, by decide⟩ x0_e) (
  xval (s_iload_n (f := 3) (by decide +kernel) rfl) (
  xval (s_icne (z := 7) (by decide +kernel) (by decide)) (
  xval (s_iconst (z := 1) (by decide +kernel) (by decide)) (
  xval (s_goto (z := 4) (by decide +kernel) (by decide)) (
  xval (s_iconst (z := 0) (by decide +kernel) (by decide)) (
  xval (s_zret (by decide +kernel)) (
  xval (s_lload_n (f := 0) (by decide +kernel) rfl) (
  xval (s_iload_n (f := 2) (by decide +kernel) rfl) (
  xval (s_callS (i := 23) c_D_behindParameters (by decide +kernel) rfl (xtt_good tw_434) (tc tw_432) (tc tw_433) (tc tw_14) ⟨by decide, by decide, by decide +kernel⟩ ⟨by decide, by decide, rfl, rfl, by decide, by decide⟩ x0_e) (
  xval (s_istore (by decide +kernel) (by decide)) (
  xval (s_iload (by decide +kernel)) (
  xval (s_iconst (z := (-1)) (by decide +kernel) (by decide)) (
  xval (s_icne (z := 5) (by decide +kernel) (by decide)) (
  xval (s_iconst (z := 0) (by decide +kernel) (by decide)) (
  xval (s_zret (by decide +kernel)) (
  xval (s_lload_n (f := 0) (by decide +kernel) rfl) (
  xval (s_iload (by decide +kernel)) (
  xval (s_callS (i := 27) c_T_charAt (by decide +kernel) rfl (xtt_good tw_222) (tc tw_425) (tc tw_221) (tc tw_7) ⟨by decide, by decide, by decide +kernel⟩ ⟨by decide, by decide, rfl, rfl, by decide, by decide⟩ x0_e) (
  xval (s_bipush (z := 86) (by decide +kernel) (by decide)) (
  xval (s_icne (z := 17) (by decide +kernel) (by decide)) (
  xval (s_iload (by decide +kernel)) (
  xval (s_iconst (z := 1) (by decide +kernel) (by decide)) (
  xval (s_iadd (by decide +kernel)) (
  xval (s_iload_n (f := 3) (by decide +kernel) rfl) (
  xval (s_icne (z := 7) (by decide +kernel) (by decide)) (
  xval (s_iconst (z := 1) (by decide +kernel) (by decide)) (
  xval (s_goto (z := 4) (by decide +kernel) (by decide)) (
  xval (s_iconst (z := 0) (by decide +kernel) (by decide)) (
  xval (s_zret (by decide +kernel)) (
  xval (s_lload_n (f := 0) (by decide +kernel) rfl) (
  xval (s_iload (by decide +kernel)) (
  xval (s_iload_n (f := 2) (by decide +kernel) rfl) (
  xval (s_callS (i := 19) c_D_behindType (by decide +kernel) rfl (xtt_good tw_428) (tc tw_426) (tc tw_427) (tc tw_14) ⟨by decide, by decide, by decide +kernel⟩ ⟨by decide, by decide, rfl, rfl, by decide, by decide⟩ x0_e) (
  xval (s_iload_n (f := 3) (by decide +kernel) rfl) (
  xval (s_icne (z := 7) (by decide +kernel) (by decide)) (
  xval (s_iconst (z := 1) (by decide +kernel) (by decide)) (
  xval (s_goto (z := 4) (by decide +kernel) (by decide)) (
  xval (s_iconst (z := 0) (by decide +kernel) (by decide)) (
  xval (s_zret (by decide +kernel)) (
  xval_nil)))))))))))))))))))))))))))))))))))))))))))))))))
theorem c_D_isOne : xMet xCl y_D_isOne ws_D_isOne rm_D_isOne (xRun tb_D_isOne 5) := xMet.of (by decide) rfl v_D_isOne
def tb_S_number : xT := [(0, o_i 8 2), (2, o_iload 0 1), (3, o_ii (fun a b => a * b)), (4, o_iload 1 1), (5, o_ii (fun a b => a + b)), (6, o_iret)]
abbrev y_S_number : MethodName := ⟨"NameMover$Store", "number", "(II)I"⟩
abbrev rm_S_number : Room := { frames := 0, cells := 0, slots := 0, locals := 0 }
abbrev ws_S_number : List Cond := Cond.code y_S_number prog_8_method_2_code 2 (some .int) :: xtt
set_option maxRecDepth 100000 in
theorem v_S_number : ∀ q ∈ tb_S_number, xSd (0, 0) x0 xCl "NameMover$Store" ws_S_number prog_8_method_2_code 2 (some .int) rm_S_number q :=
  xval (s_bipush (z := 8) (by decide +kernel) (by decide)) (
  xval (s_iload_n (f := 0) (by decide +kernel) rfl) (
  xval (s_imul (by decide +kernel)) (
  xval (s_iload_n (f := 1) (by decide +kernel) rfl) (
  xval (s_iadd (by decide +kernel)) (
  xval (s_iret (by decide +kernel)) (
  xval_nil))))))
theorem c_S_number : xMet xCl y_S_number ws_S_number rm_S_number (xRun tb_S_number 2) := xMet.of (by decide) rfl v_S_number
def tb_S_ownMember : xT := [(0, o_i 0 1), (1, o_istore 6 2), (3, o_iload 6 2), (5, o_aload 0 1), (6, o_getf 1 4), (9, o_iload 1 1), (10, o_iaload), (11, o_ic (fun a b => b ≤ a) 56), (14, o_iload 1 1), (15, o_iload 6 2), (17, o_call (xRun tb_S_number 2) 2 0 0), (20, o_istore 7 2), (22, o_aload 0 1), (23, o_getf 1 6), (26, o_iload 7 2), (28, o_laload), (29, o_lload 2 1), (30, o_lcmp), (31, o_ifn (fun a => a = 0) 50), (34, o_aload 0 1), (35, o_getf 1 8), (38, o_iload 7 2), (40, o_laload), (41, o_lload 4 2), (43, o_lcmp), (44, o_ifn (fun a => a = 0) 50), (47, o_iload 7 2), (49, o_iret), (50, o_iinc 6 1), (53, o_goto 3), (56, o_i (-1) 1), (57, o_iret)]
abbrev y_S_ownMember : MethodName := ⟨"NameMover$Store", "ownMember", "(IJJ)I"⟩
abbrev rm_S_ownMember : Room := { frames := 1, cells := 0, slots := 0, locals := 21 }
abbrev ws_S_ownMember : List Cond := Cond.code y_S_ownMember prog_8_method_10_code 8 (some .int) :: xtt
set_option maxRecDepth 100000 in
theorem v_S_ownMember : ∀ q ∈ tb_S_ownMember, xSd (0, 0) x0 xCl "NameMover$Store" ws_S_ownMember prog_8_method_10_code 8 (some .int) rm_S_ownMember q :=
  xval (s_iconst (z := 0) (by decide +kernel) (by decide)) (
  xval (s_istore (by decide +kernel) (by decide)) (
  xval (s_iload (by decide +kernel)) (
  xval (s_aload_n (f := 0) (by decide +kernel) rfl) (
  xval (s_getf (i := 24) (by decide +kernel) rfl tin_S (by decide) (tc tw_45)) (
  xval (s_iload_n (f := 1) (by decide +kernel) rfl) (
  xval (s_iaload (by decide +kernel)) (
  xval (s_icge (z := 45) (by decide +kernel) (by decide)) (
  xval (s_iload_n (f := 1) (by decide +kernel) rfl) (
  xval (s_iload (by decide +kernel)) (
  xval (s_callS (i := 58) c_S_number (by decide +kernel) rfl (xtt_good tw_446) (tc tw_444) (tc tw_445) (tc tw_2) ⟨by decide, by decide, by decide +kernel⟩ ⟨by decide, by decide, rfl, rfl, by decide, by decide⟩ x0_e) (
  xval (s_istore (by decide +kernel) (by decide)) (
  xval (s_aload_n (f := 0) (by decide +kernel) rfl) (
  xval (s_getf (i := 30) (by decide +kernel) rfl tin_S (by decide) (tc tw_48)) (
  xval (s_iload (by decide +kernel)) (
  xval (s_laload (by decide +kernel)) (
  xval (s_lload_n (f := 2) (by decide +kernel) rfl) (
  xval (s_lcmp (by decide +kernel)) (
  xval (s_ifne (z := 19) (by decide +kernel) (by decide)) (
  xval (s_aload_n (f := 0) (by decide +kernel) rfl) (
  xval (s_getf (i := 36) (by decide +kernel) rfl tin_S (by decide) (tc tw_55)) (
  xval (s_iload (by decide +kernel)) (
  xval (s_laload (by decide +kernel)) (
  xval (s_lload (by decide +kernel)) (
  xval (s_lcmp (by decide +kernel)) (
  xval (s_ifne (z := 6) (by decide +kernel) (by decide)) (
  xval (s_iload (by decide +kernel)) (
  xval (s_iret (by decide +kernel)) (
  xval (s_iinc (z := 1) (by decide +kernel) (by decide) (by decide)) (
  xval (s_goto (z := (-50)) (by decide +kernel) (by decide)) (
  xval (s_iconst (z := (-1)) (by decide +kernel) (by decide)) (
  xval (s_iret (by decide +kernel)) (
  xval_nil))))))))))))))))))))))))))))))))
theorem c_S_ownMember : xMet xCl y_S_ownMember ws_S_ownMember rm_S_ownMember (xRun tb_S_ownMember 8) := xMet.of (by decide) rfl v_S_ownMember
def tb_S_hasRoomFor : xT := [(0, o_aload 0 1), (1, o_getf 1 4), (4, o_iload 1 1), (5, o_iaload), (6, o_i 6 2), (8, o_ic (fun a b => b ≤ a) 27), (11, o_aload 0 1), (12, o_iload 1 1), (13, o_lload 2 1), (14, o_lload 4 2), (16, o_callV (xRun tb_S_ownMember 8) 1 3 0 0), (19, o_i (-1) 1), (20, o_icn (fun a b => a = b) 27), (23, o_i 1 1), (24, o_goto 28), (27, o_i 0 1), (28, o_zret)]
abbrev y_S_hasRoomFor : MethodName := ⟨"NameMover$Store", "hasRoomFor", "(IJJ)Z"⟩
abbrev rm_S_hasRoomFor : Room := { frames := 2, cells := 0, slots := 0, locals := 48 }
abbrev ws_S_hasRoomFor : List Cond := Cond.code y_S_hasRoomFor prog_8_method_13_code 6 (some .boolean) :: xtt
set_option maxRecDepth 100000 in
theorem v_S_hasRoomFor : ∀ q ∈ tb_S_hasRoomFor, xSd (0, 0) x0 xCl "NameMover$Store" ws_S_hasRoomFor prog_8_method_13_code 6 (some .boolean) rm_S_hasRoomFor q :=
  xval (s_aload_n (f := 0) (by decide +kernel) rfl) (
  xval (s_getf (i := 24) (by decide +kernel) rfl tin_S (by decide) (tc tw_45)) (
  xval (s_iload_n (f := 1) (by decide +kernel) rfl) (
  xval (s_iaload (by decide +kernel)) (
  xval (s_bipush (z := 6) (by decide +kernel) (by decide)) (
  xval (s_icge (z := 19) (by decide +kernel) (by decide)) (
  xval (s_aload_n (f := 0) (by decide +kernel) rfl) (
  xval (s_iload_n (f := 1) (by decide +kernel) rfl) (
  xval (s_lload_n (f := 2) (by decide +kernel) rfl) (
  xval (s_lload (by decide +kernel)) (
  xval (s_callV (i := 65) c_S_ownMember (by decide +kernel) rfl (xtt_good tw_443) rfl (tc tw_440) (tc tw_441) (tc tw_442) (tc tw_2) ⟨by decide, by decide, by decide +kernel⟩ ⟨by decide, by decide, rfl, rfl, by decide, by decide⟩ x0_e) (
  xval (s_iconst (z := (-1)) (by decide +kernel) (by decide)) (
  xval (s_icne (z := 7) (by decide +kernel) (by decide)) (
  xval (s_iconst (z := 1) (by decide +kernel) (by decide)) (
  xval (s_goto (z := 4) (by decide +kernel) (by decide)) (
  xval (s_iconst (z := 0) (by decide +kernel) (by decide)) (
  xval (s_zret (by decide +kernel)) (
  xval_nil)))))))))))))))))
theorem c_S_hasRoomFor : xMet xCl y_S_hasRoomFor ws_S_hasRoomFor rm_S_hasRoomFor (xRun tb_S_hasRoomFor 6) := xMet.of (by decide) rfl v_S_hasRoomFor
def tb_S_placeMember : xT := [(0, o_aload 0 1), (1, o_getf 1 4), (4, o_iload 1 1), (5, o_iaload), (6, o_istore 7 2), (8, o_iload 1 1), (9, o_iload 7 2), (11, o_call (xRun tb_S_number 2) 2 0 0), (14, o_istore 8 2), (16, o_aload 0 1), (17, o_getf 1 6), (20, o_iload 8 2), (22, o_lload 2 1), (23, o_lastore), (24, o_aload 0 1), (25, o_getf 1 7), (28, o_iload 8 2), (30, o_lload 2 1), (31, o_lastore), (32, o_aload 0 1), (33, o_getf 1 8), (36, o_iload 8 2), (38, o_lload 4 2), (40, o_lastore), (41, o_aload 0 1), (42, o_getf 1 9), (45, o_iload 8 2), (47, o_iload 6 2), (49, o_bastore), (50, o_aload 0 1), (51, o_getf 1 4), (54, o_iload 1 1), (55, o_iload 7 2), (57, o_i 1 1), (58, o_ii (fun a b => a + b)), (59, o_iastore), (60, o_iload 7 2), (62, o_iret)]
abbrev y_S_placeMember : MethodName := ⟨"NameMover$Store", "placeMember", "(IJJZ)I"⟩
abbrev rm_S_placeMember : Room := { frames := 1, cells := 0, slots := 0, locals := 21 }
abbrev ws_S_placeMember : List Cond := Cond.code y_S_placeMember prog_8_method_16_code 9 (some .int) :: xtt
set_option maxRecDepth 100000 in
theorem v_S_placeMember : ∀ q ∈ tb_S_placeMember, xSd (0, 0) x0 xCl "NameMover$Store" ws_S_placeMember prog_8_method_16_code 9 (some .int) rm_S_placeMember q :=
  xval (s_aload_n (f := 0) (by decide +kernel) rfl) (
  xval (s_getf (i := 24) (by decide +kernel) rfl tin_S (by decide) (tc tw_45)) (
  xval (s_iload_n (f := 1) (by decide +kernel) rfl) (
  xval (s_iaload (by decide +kernel)) (
  xval (s_istore (by decide +kernel) (by decide)) (
  xval (s_iload_n (f := 1) (by decide +kernel) rfl) (
  xval (s_iload (by decide +kernel)) (
  xval (s_callS (i := 58) c_S_number (by decide +kernel) rfl (xtt_good tw_446) (tc tw_444) (tc tw_445) (tc tw_2) ⟨by decide, by decide, by decide +kernel⟩ ⟨by decide, by decide, rfl, rfl, by decide, by decide⟩ x0_e) (
  xval (s_istore (by decide +kernel) (by decide)) (
  xval (s_aload_n (f := 0) (by decide +kernel) rfl) (
  xval (s_getf (i := 30) (by decide +kernel) rfl tin_S (by decide) (tc tw_48)) (
  xval (s_iload (by decide +kernel)) (
  xval (s_lload_n (f := 2) (by decide +kernel) rfl) (
  xval (s_lastore (by decide +kernel)) (
  xval (s_aload_n (f := 0) (by decide +kernel) rfl) (
  xval (s_getf (i := 33) (by decide +kernel) rfl tin_S (by decide) (tc tw_52)) (
  xval (s_iload (by decide +kernel)) (
  xval (s_lload_n (f := 2) (by decide +kernel) rfl) (
  xval (s_lastore (by decide +kernel)) (
  xval (s_aload_n (f := 0) (by decide +kernel) rfl) (
  xval (s_getf (i := 36) (by decide +kernel) rfl tin_S (by decide) (tc tw_55)) (
  xval (s_iload (by decide +kernel)) (
  xval (s_lload (by decide +kernel)) (
  xval (s_lastore (by decide +kernel)) (
  xval (s_aload_n (f := 0) (by decide +kernel) rfl) (
  xval (s_getf (i := 39) (by decide +kernel) rfl tin_S (by decide) (tc tw_58)) (
  xval (s_iload (by decide +kernel)) (
  xval (s_iload (by decide +kernel)) (
  xval (s_bastore (by decide +kernel)) (
  xval (s_aload_n (f := 0) (by decide +kernel) rfl) (
  xval (s_getf (i := 24) (by decide +kernel) rfl tin_S (by decide) (tc tw_45)) (
  xval (s_iload_n (f := 1) (by decide +kernel) rfl) (
  xval (s_iload (by decide +kernel)) (
  xval (s_iconst (z := 1) (by decide +kernel) (by decide)) (
  xval (s_iadd (by decide +kernel)) (
  xval (s_iastore (by decide +kernel)) (
  xval (s_iload (by decide +kernel)) (
  xval (s_iret (by decide +kernel)) (
  xval_nil))))))))))))))))))))))))))))))))))))))
theorem c_S_placeMember : xMet xCl y_S_placeMember ws_S_placeMember rm_S_placeMember (xRun tb_S_placeMember 9) := xMet.of (by decide) rfl v_S_placeMember
def tb_N_member : xT := [(0, o_aload 0 1), (1, o_iload 1 1), (2, o_callV (xRun tb_N_requireClass 2) 0 1 1 1), (5, o_lload 2 1), (6, o_call (xRun tb_T_isIdentifier 2) 1 1 0), (9, o_if (fun a => a = 0) 27), (12, o_lload 4 2), (14, o_aload 0 1), (15, o_getf 0 0), (18, o_getf 1 10), (21, o_call (xRun tb_D_isOne 5) 2 1 0), (24, o_ifn (fun a => a = 0) 37), (27, o_throw 0 1), (37, o_aload 0 1), (38, o_getf 0 0), (41, o_callV (xRun tb_S_isMoving 1) 1 0 1 0), (44, o_ifn (fun a => a = 0) 61), (47, o_aload 0 1), (48, o_getf 0 0), (51, o_iload 1 1), (52, o_lload 2 1), (53, o_lload 4 2), (55, o_callV (xRun tb_S_hasRoomFor 6) 1 3 1 0), (58, o_ifn (fun a => a = 0) 71), (61, o_throw 2 1), (71, o_aload 0 1), (72, o_getf 0 0), (75, o_iload 1 1), (76, o_lload 2 1), (77, o_lload 4 2), (79, o_iload 6 2), (81, o_callV (xRun tb_S_placeMember 9) 1 4 1 0), (84, o_iret)]
abbrev y_N_member : MethodName := ⟨"NameMover", "member", "(IJJZ)I"⟩
abbrev rm_N_member : Room := { frames := 7, cells := 1, slots := 6, locals := 106 }
abbrev ws_N_member : List Cond := Cond.code y_N_member prog_1_method_3_code 7 (some .int) :: xtt
set_option maxRecDepth 100000 in
theorem v_N_member : ∀ q ∈ tb_N_member, xSd (0, 0) x0 xCl "NameMover" ws_N_member prog_1_method_3_code 7 (some .int) rm_N_member q :=
  xval (s_aload_n (f := 0) (by decide +kernel) rfl) (
  xval (s_iload_n (f := 1) (by decide +kernel) rfl) (
  xval (s_callV (i := 95) c_N_requireClass (by decide +kernel) rfl (xtt_good tw_412) rfl (tc tw_409) (tc tw_411) (tc ts_1) (tc tw_1) ⟨by decide, by decide, by decide +kernel⟩ ⟨by decide, by decide, rfl, rfl, by decide, by decide⟩ x0_e) (
  xval (s_lload_n (f := 2) (by decide +kernel) rfl) (
  xval (s_callS (i := 99) c_T_isIdentifier (by decide +kernel) rfl (xtt_good tw_416) (tc tw_414) (tc tw_415) (tc tw_7) ⟨by decide, by decide, by decide +kernel⟩ ⟨by decide, by decide, rfl, rfl, by decide, by decide⟩ x0_e) (
  xval (s_ifeq (z := 18) (by decide +kernel) (by decide)) (
  xval (s_lload (by decide +kernel)) (
  xval (s_aload_n (f := 0) (by decide +kernel) rfl) (
  xval (s_getf (i := 10) (by decide +kernel) rfl tin_N (by decide) (tc tw_150)) (
  xval (s_getf (i := 74) (by decide +kernel) rfl tin_S (by decide) (tc tw_62)) (
  xval (s_callS (i := 102) c_D_isOne (by decide +kernel) rfl (xtt_good tw_420) (tc tw_418) (tc tw_419) (tc tw_14) ⟨by decide, by decide, by decide +kernel⟩ ⟨by decide, by decide, rfl, rfl, by decide, by decide⟩ x0_e) (
  xval (s_ifne (z := 13) (by decide +kernel) (by decide)) (
  xval (s_throw (i := 51) (ik := 108) (ic := 55) (j := 7) (bs := prog_13_method_2_code) (tx := "no identifier or no descriptor") (by decide +kernel) (by decide +kernel) (by decide +kernel) (by decide +kernel) (by decide +kernel) (tc tw_279) (tc tw_280) (tc tw_11) (tc tw_435) (by decide +kernel) (by decide +kernel) (by decide +kernel) (by decide +kernel) (by decide +kernel) (tow_0 (tc tw_322)) ⟨by decide, by decide, by decide, by decide⟩ x0_e) (
  xval (s_aload_n (f := 0) (by decide +kernel) rfl) (
  xval (s_getf (i := 10) (by decide +kernel) rfl tin_N (by decide) (tc tw_150)) (
  xval (s_callV (i := 67) c_S_isMoving (by decide +kernel) rfl (xtt_good tw_368) rfl (tc tw_365) (tc tw_366) (tc tw_367) (tc tw_2) ⟨by decide, by decide, by decide +kernel⟩ ⟨by decide, by decide, rfl, rfl, by decide, by decide⟩ x0_e) (
  xval (s_ifne (z := 17) (by decide +kernel) (by decide)) (
  xval (s_aload_n (f := 0) (by decide +kernel) rfl) (
  xval (s_getf (i := 10) (by decide +kernel) rfl tin_N (by decide) (tc tw_150)) (
  xval (s_iload_n (f := 1) (by decide +kernel) rfl) (
  xval (s_lload_n (f := 2) (by decide +kernel) rfl) (
  xval (s_lload (by decide +kernel)) (
  xval (s_callV (i := 110) c_S_hasRoomFor (by decide +kernel) rfl (xtt_good tw_439) rfl (tc tw_436) (tc tw_437) (tc tw_438) (tc tw_2) ⟨by decide, by decide, by decide +kernel⟩ ⟨by decide, by decide, rfl, rfl, by decide, by decide⟩ x0_e) (
  xval (s_ifne (z := 13) (by decide +kernel) (by decide)) (
  xval (s_throw (i := 82) (ik := 114) (ic := 86) (j := 7) (bs := prog_14_method_2_code) (tx := "moving, 6 members, or there is such a member") (by decide +kernel) (by decide +kernel) (by decide +kernel) (by decide +kernel) (by decide +kernel) (tc tw_378) (tc tw_379) (tc tw_13) (tc tw_447) (by decide +kernel) (by decide +kernel) (by decide +kernel) (by decide +kernel) (by decide +kernel) (tow_2 (tc tw_388)) ⟨by decide, by decide, by decide, by decide⟩ x0_e) (
  xval (s_aload_n (f := 0) (by decide +kernel) rfl) (
  xval (s_getf (i := 10) (by decide +kernel) rfl tin_N (by decide) (tc tw_150)) (
  xval (s_iload_n (f := 1) (by decide +kernel) rfl) (
  xval (s_lload_n (f := 2) (by decide +kernel) rfl) (
  xval (s_lload (by decide +kernel)) (
  xval (s_iload (by decide +kernel)) (
  xval (s_callV (i := 116) c_S_placeMember (by decide +kernel) rfl (xtt_good tw_451) rfl (tc tw_448) (tc tw_449) (tc tw_450) (tc tw_2) ⟨by decide, by decide, by decide +kernel⟩ ⟨by decide, by decide, rfl, rfl, by decide, by decide⟩ x0_e) (
  xval (s_iret (by decide +kernel)) (
  xval_nil)))))))))))))))))))))))))))))))))
theorem c_N_member : xMet xCl y_N_member ws_N_member rm_N_member (xRun tb_N_member 7) := xMet.of (by decide) rfl v_N_member
def tb_N_moveClass : xT := [(0, o_aload 0 1), (1, o_iload 1 1), (2, o_callV (xRun tb_N_requireClass 2) 0 1 1 1), (5, o_lload 2 1), (6, o_call (xRun tb_T_isClassName 6) 1 1 0), (9, o_ifn (fun a => a = 0) 22), (12, o_throw 0 1), (22, o_aload 0 1), (23, o_getf 0 0), (26, o_getf 1 1), (29, o_iload 1 1), (30, o_lload 2 1), (31, o_lastore), (32, o_vret)]
abbrev y_N_moveClass : MethodName := ⟨"NameMover", "moveClass", "(IJ)V"⟩
abbrev rm_N_moveClass : Room := { frames := 7, cells := 1, slots := 6, locals := 103 }
abbrev ws_N_moveClass : List Cond := Cond.code y_N_moveClass prog_1_method_4_code 4 (none) :: xtt
set_option maxRecDepth 100000 in
theorem v_N_moveClass : ∀ q ∈ tb_N_moveClass, xSd (0, 0) x0 xCl "NameMover" ws_N_moveClass prog_1_method_4_code 4 (none) rm_N_moveClass q :=
  xval (s_aload_n (f := 0) (by decide +kernel) rfl) (
  xval (s_iload_n (f := 1) (by decide +kernel) rfl) (
  xval (s_callV (i := 95) c_N_requireClass (by decide +kernel) rfl (xtt_good tw_412) rfl (tc tw_409) (tc tw_411) (tc ts_1) (tc tw_1) ⟨by decide, by decide, by decide +kernel⟩ ⟨by decide, by decide, rfl, rfl, by decide, by decide⟩ x0_e) (
  xval (s_lload_n (f := 2) (by decide +kernel) rfl) (
  xval (s_callS (i := 45) c_T_isClassName (by decide +kernel) rfl (xtt_good tw_269) (tc tw_267) (tc tw_268) (tc tw_7) ⟨by decide, by decide, by decide +kernel⟩ ⟨by decide, by decide, rfl, rfl, by decide, by decide⟩ x0_e) (
  xval (s_ifne (z := 13) (by decide +kernel) (by decide)) (
  xval (s_throw (i := 51) (ik := 53) (ic := 55) (j := 7) (bs := prog_13_method_2_code) (tx := "no class name") (by decide +kernel) (by decide +kernel) (by decide +kernel) (by decide +kernel) (by decide +kernel) (tc tw_279) (tc tw_280) (tc tw_11) (tc tw_321) (by decide +kernel) (by decide +kernel) (by decide +kernel) (by decide +kernel) (by decide +kernel) (tow_0 (tc tw_322)) ⟨by decide, by decide, by decide, by decide⟩ x0_e) (
  xval (s_aload_n (f := 0) (by decide +kernel) rfl) (
  xval (s_getf (i := 10) (by decide +kernel) rfl tin_N (by decide) (tc tw_150)) (
  xval (s_getf (i := 120) (by decide +kernel) rfl tin_S (by decide) (tc tw_39)) (
  xval (s_iload_n (f := 1) (by decide +kernel) rfl) (
  xval (s_lload_n (f := 2) (by decide +kernel) rfl) (
  xval (s_lastore (by decide +kernel)) (
  xval (s_vret (by decide +kernel)) (
  xval_nil))))))))))))))
theorem c_N_moveClass : xMet xCl y_N_moveClass ws_N_moveClass rm_N_moveClass (xRun tb_N_moveClass 4) := xMet.of (by decide) rfl v_N_moveClass
def tb_T_isPackage : xT := [(0, o_lload 0 1), (1, o_l 0 1), (2, o_lcmp), (3, o_if (fun a => a = 0) 13), (6, o_lload 0 1), (7, o_call (xRun tb_T_isClassName 6) 1 0 0), (10, o_if (fun a => a = 0) 17), (13, o_i 1 1), (14, o_goto 18), (17, o_i 0 1), (18, o_zret)]
abbrev y_T_isPackage : MethodName := ⟨"NameMover$Text", "isPackage", "(J)Z"⟩
abbrev rm_T_isPackage : Room := { frames := 3, cells := 0, slots := 0, locals := 69 }
abbrev ws_T_isPackage : List Cond := Cond.code y_T_isPackage prog_9_method_7_code 2 (some .boolean) :: xtt
set_option maxRecDepth 100000 in
theorem v_T_isPackage : ∀ q ∈ tb_T_isPackage, xSd (0, 0) x0 xCl "NameMover$Text" ws_T_isPackage prog_9_method_7_code 2 (some .boolean) rm_T_isPackage q :=
  xval (s_lload_n (f := 0) (by decide +kernel) rfl) (
  xval (s_lconst (z := 0) (by decide +kernel) (by decide)) (
  xval (s_lcmp (by decide +kernel)) (
  xval (s_ifeq (z := 10) (by decide +kernel) (by decide)) (
  xval (s_lload_n (f := 0) (by decide +kernel) rfl) (
  xval (s_callS (i := 24) c_T_isClassName (by decide +kernel) rfl (xtt_good tw_269) (tc tw_417) (tc tw_268) (tc tw_7) ⟨by decide, by decide, by decide +kernel⟩ ⟨by decide, by decide, rfl, rfl, by decide, by decide⟩ x0_e) (
  xval (s_ifeq (z := 7) (by decide +kernel) (by decide)) (
  xval (s_iconst (z := 1) (by decide +kernel) (by decide)) (
  xval (s_goto (z := 4) (by decide +kernel) (by decide)) (
  xval (s_iconst (z := 0) (by decide +kernel) (by decide)) (
  xval (s_zret (by decide +kernel)) (
  xval_nil)))))))))))
theorem c_T_isPackage : xMet xCl y_T_isPackage ws_T_isPackage rm_T_isPackage (xRun tb_T_isPackage 2) := xMet.of (by decide) rfl v_T_isPackage
def tb_T_packageOf : xT := [(0, o_lload 0 1), (1, o_call (xRun tb_T_lastSlash 3) 1 0 0), (4, o_istore 2 1), (5, o_iload 2 1), (6, o_if (fun a => 0 ≤ a) 13), (9, o_l 0 1), (10, o_goto 23), (13, o_lload 0 1), (14, o_l 1 1), (15, o_i 8 2), (17, o_iload 2 1), (18, o_ii (fun a b => a * b)), (19, o_li xshl), (20, o_l 1 1), (21, o_ll (fun a b => a - b)), (22, o_ll (fun a b => a &&& b)), (23, o_lret)]
abbrev y_T_packageOf : MethodName := ⟨"NameMover$Text", "packageOf", "(J)J"⟩
abbrev rm_T_packageOf : Room := { frames := 2, cells := 0, slots := 0, locals := 44 }
abbrev ws_T_packageOf : List Cond := Cond.code y_T_packageOf prog_9_method_8_code 3 (some .long) :: xtt
set_option maxRecDepth 100000 in
theorem v_T_packageOf : ∀ q ∈ tb_T_packageOf, xSd (0, 0) x0 xCl "NameMover$Text" ws_T_packageOf prog_9_method_8_code 3 (some .long) rm_T_packageOf q :=
  xval (s_lload_n (f := 0) (by decide +kernel) rfl) (
  xval (s_callS (i := 28) c_T_lastSlash (by decide +kernel) rfl (xtt_good tw_219) (tc tw_217) (tc tw_218) (tc tw_7) ⟨by decide, by decide, by decide +kernel⟩ ⟨by decide, by decide, rfl, rfl, by decide, by decide⟩ x0_e) (
  xval (s_istore_n (f := 2) (by decide +kernel) rfl (by decide)) (
  xval (s_iload_n (f := 2) (by decide +kernel) rfl) (
  xval (s_ifge (z := 7) (by decide +kernel) (by decide)) (
  xval (s_lconst (z := 0) (by decide +kernel) (by decide)) (
  xval (s_goto (z := 13) (by decide +kernel) (by decide)) (
  xval (s_lload_n (f := 0) (by decide +kernel) rfl) (
  xval (s_lconst (z := 1) (by decide +kernel) (by decide)) (
  xval (s_bipush (z := 8) (by decide +kernel) (by decide)) (
  xval (s_iload_n (f := 2) (by decide +kernel) rfl) (
  xval (s_imul (by decide +kernel)) (
  xval (s_lshl (by decide +kernel)) (
  xval (s_lconst (z := 1) (by decide +kernel) (by decide)) (
  xval (s_lsub (by decide +kernel)) (
  xval (s_land (by decide +kernel)) (
  xval (s_lret (by decide +kernel)) (
  xval_nil)))))))))))))))))
theorem c_T_packageOf : xMet xCl y_T_packageOf ws_T_packageOf rm_T_packageOf (xRun tb_T_packageOf 3) := xMet.of (by decide) rfl v_T_packageOf
def tb_S_goesWithPackage : xT := [(0, o_aload 0 1), (1, o_getf 1 3), (4, o_iload 1 1), (5, o_baload), (6, o_ifn (fun a => a = 0) 27), (9, o_aload 0 1), (10, o_getf 1 0), (13, o_iload 1 1), (14, o_laload), (15, o_call (xRun tb_T_packageOf 3) 1 0 0), (18, o_lload 2 1), (19, o_lcmp), (20, o_ifn (fun a => a = 0) 27), (23, o_i 1 1), (24, o_goto 28), (27, o_i 0 1), (28, o_zret)]
abbrev y_S_goesWithPackage : MethodName := ⟨"NameMover$Store", "goesWithPackage", "(IJ)Z"⟩
abbrev rm_S_goesWithPackage : Room := { frames := 3, cells := 0, slots := 0, locals := 66 }
abbrev ws_S_goesWithPackage : List Cond := Cond.code y_S_goesWithPackage prog_8_method_23_code 4 (some .boolean) :: xtt
set_option maxRecDepth 100000 in
theorem v_S_goesWithPackage : ∀ q ∈ tb_S_goesWithPackage, xSd (0, 0) x0 xCl "NameMover$Store" ws_S_goesWithPackage prog_8_method_23_code 4 (some .boolean) rm_S_goesWithPackage q :=
  xval (s_aload_n (f := 0) (by decide +kernel) rfl) (
  xval (s_getf (i := 20) (by decide +kernel) rfl tin_S (by decide) (tc tw_42)) (
  xval (s_iload_n (f := 1) (by decide +kernel) rfl) (
  xval (s_baload (by decide +kernel)) (
  xval (s_ifne (z := 21) (by decide +kernel) (by decide)) (
  xval (s_aload_n (f := 0) (by decide +kernel) rfl) (
  xval (s_getf (i := 9) (by decide +kernel) rfl tin_S (by decide) (tc tw_33)) (
  xval (s_iload_n (f := 1) (by decide +kernel) rfl) (
  xval (s_laload (by decide +kernel)) (
  xval (s_callS (i := 95) c_T_packageOf (by decide +kernel) rfl (xtt_good tw_216) (tc tw_477) (tc tw_215) (tc tw_7) ⟨by decide, by decide, by decide +kernel⟩ ⟨by decide, by decide, rfl, rfl, by decide, by decide⟩ x0_e) (
  xval (s_lload_n (f := 2) (by decide +kernel) rfl) (
  xval (s_lcmp (by decide +kernel)) (
  xval (s_ifne (z := 7) (by decide +kernel) (by decide)) (
  xval (s_iconst (z := 1) (by decide +kernel) (by decide)) (
  xval (s_goto (z := 4) (by decide +kernel) (by decide)) (
  xval (s_iconst (z := 0) (by decide +kernel) (by decide)) (
  xval (s_zret (by decide +kernel)) (
  xval_nil)))))))))))))))))
theorem c_S_goesWithPackage : xMet xCl y_S_goesWithPackage ws_S_goesWithPackage rm_S_goesWithPackage (xRun tb_S_goesWithPackage 4) := xMet.of (by decide) rfl v_S_goesWithPackage
