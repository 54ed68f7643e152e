def tb_T_charAt : xT := [(0, o_iload 2 1), (1, o_if (fun a => a < 0) 10), (4, o_iload 2 1), (5, o_i 8 2), (7, o_ic (fun a b => a < b) 14), (10, o_i 0 1), (11, o_goto 25), (14, o_lload 0 1), (15, o_i 8 2), (17, o_iload 2 1), (18, o_ii (fun a b => a * b)), (19, o_li xushr), (20, o_l2i), (21, o_i 255 3), (24, o_ii (fun a b => a &&& b)), (25, o_iret)]
abbrev y_T_charAt : MethodName := ⟨"NameMover$Text", "charAt", "(JI)I"⟩
abbrev rm_T_charAt : Room := { frames := 0, cells := 0, slots := 0, locals := 0 }
abbrev ws_T_charAt : List Cond := Cond.code y_T_charAt prog_9_method_2_code 3 (some .int) :: xtt
set_option maxRecDepth 100000 in
theorem v_T_charAt : ∀ q ∈ tb_T_charAt, xSd (0, 0) x0 xCl "NameMover$Text" ws_T_charAt prog_9_method_2_code 3 (some .int) rm_T_charAt q :=
  xval (s_iload_n (f := 2) (by decide +kernel) rfl) (
  xval (s_iflt (z := 9) (by decide +kernel) (by decide)) (
  xval (s_iload_n (f := 2) (by decide +kernel) rfl) (
  xval (s_bipush (z := 8) (by decide +kernel) (by decide)) (
  xval (s_iclt (z := 7) (by decide +kernel) (by decide)) (
  xval (s_iconst (z := 0) (by decide +kernel) (by decide)) (
  xval (s_goto (z := 14) (by decide +kernel) (by decide)) (
  xval (s_lload_n (f := 0) (by decide +kernel) rfl) (
  xval (s_bipush (z := 8) (by decide +kernel) (by decide)) (
  xval (s_iload_n (f := 2) (by decide +kernel) rfl) (
  xval (s_imul (by decide +kernel)) (
  xval (s_lushr (by decide +kernel)) (
  xval (s_l2i (by decide +kernel)) (
  xval (s_sipush (z := 255) (by decide +kernel) (by decide)) (
  xval (s_iand (by decide +kernel)) (
  xval (s_iret (by decide +kernel)) (
  xval_nil))))))))))))))))
theorem c_T_charAt : xMet xCl y_T_charAt ws_T_charAt rm_T_charAt (xRun tb_T_charAt 3) := xMet.of (by decide) rfl v_T_charAt
def tb_T_length : xT := [(0, o_i 8 2), (2, o_istore 2 1), (3, o_iload 2 1), (4, o_if (fun a => a ≤ 0) 23), (7, o_lload 0 1), (8, o_iload 2 1), (9, o_i 1 1), (10, o_ii (fun a b => a - b)), (11, o_call (xRun tb_T_charAt 3) 2 0 0), (14, o_ifn (fun a => a = 0) 23), (17, o_iinc 2 (-1)), (20, o_goto 3), (23, o_iload 2 1), (24, o_iret)]
abbrev y_T_length : MethodName := ⟨"NameMover$Text", "length", "(J)I"⟩
abbrev rm_T_length : Room := { frames := 1, cells := 0, slots := 0, locals := 22 }
abbrev ws_T_length : List Cond := Cond.code y_T_length prog_9_method_4_code 3 (some .int) :: xtt
set_option maxRecDepth 100000 in
theorem v_T_length : ∀ q ∈ tb_T_length, xSd (0, 0) x0 xCl "NameMover$Text" ws_T_length prog_9_method_4_code 3 (some .int) rm_T_length q :=
  xval (s_bipush (z := 8) (by decide +kernel) (by decide)) (
  xval (s_istore_n (f := 2) (by decide +kernel) rfl (by decide)) (
  xval (s_iload_n (f := 2) (by decide +kernel) rfl) (
  xval (s_ifle (z := 19) (by decide +kernel) (by decide)) (
  xval (s_lload_n (f := 0) (by decide +kernel) rfl) (
  xval (s_iload_n (f := 2) (by decide +kernel) rfl) (
  xval (s_iconst (z := 1) (by decide +kernel) (by decide)) (
  xval (s_isub (by decide +kernel)) (
  xval (s_callS (i := 9) c_T_charAt (by decide +kernel) rfl (xtt_good tw_222) (tc tw_220) (tc tw_221) (tc tw_7) ⟨by decide, by decide, by decide +kernel⟩ ⟨by decide, by decide, rfl, rfl, by decide, by decide⟩ x0_e) (
  xval (s_ifne (z := 9) (by decide +kernel) (by decide)) (
  xval (s_iinc (z := (-1)) (by decide +kernel) (by decide) (by decide)) (
  xval (s_goto (z := (-17)) (by decide +kernel) (by decide)) (
  xval (s_iload_n (f := 2) (by decide +kernel) rfl) (
  xval (s_iret (by decide +kernel)) (
  xval_nil))))))))))))))
theorem c_T_length : xMet xCl y_T_length ws_T_length rm_T_length (xRun tb_T_length 3) := xMet.of (by decide) rfl v_T_length
def tb_T_isLetter : xT := [(0, o_iload 0 1), (1, o_i 97 2), (3, o_ic (fun a b => a < b) 12), (6, o_iload 0 1), (7, o_i 122 2), (9, o_ic (fun a b => a ≤ b) 24), (12, o_iload 0 1), (13, o_i 65 2), (15, o_ic (fun a b => a < b) 28), (18, o_iload 0 1), (19, o_i 90 2), (21, o_ic (fun a b => b < a) 28), (24, o_i 1 1), (25, o_goto 29), (28, o_i 0 1), (29, o_zret)]
abbrev y_T_isLetter : MethodName := ⟨"NameMover$Text", "isLetter", "(I)Z"⟩
abbrev rm_T_isLetter : Room := { frames := 0, cells := 0, slots := 0, locals := 0 }
abbrev ws_T_isLetter : List Cond := Cond.code y_T_isLetter prog_9_method_12_code 1 (some .boolean) :: xtt
set_option maxRecDepth 100000 in
theorem v_T_isLetter : ∀ q ∈ tb_T_isLetter, xSd (0, 0) x0 xCl "NameMover$Text" ws_T_isLetter prog_9_method_12_code 1 (some .boolean) rm_T_isLetter q :=
  xval (s_iload_n (f := 0) (by decide +kernel) rfl) (
  xval (s_bipush (z := 97) (by decide +kernel) (by decide)) (
  xval (s_iclt (z := 9) (by decide +kernel) (by decide)) (
  xval (s_iload_n (f := 0) (by decide +kernel) rfl) (
  xval (s_bipush (z := 122) (by decide +kernel) (by decide)) (
  xval (s_icle (z := 15) (by decide +kernel) (by decide)) (
  xval (s_iload_n (f := 0) (by decide +kernel) rfl) (
  xval (s_bipush (z := 65) (by decide +kernel) (by decide)) (
  xval (s_iclt (z := 13) (by decide +kernel) (by decide)) (
  xval (s_iload_n (f := 0) (by decide +kernel) rfl) (
  xval (s_bipush (z := 90) (by decide +kernel) (by decide)) (
  xval (s_icgt (z := 7) (by decide +kernel) (by decide)) (
  xval (s_iconst (z := 1) (by decide +kernel) (by decide)) (
  xval (s_goto (z := 4) (by decide +kernel) (by decide)) (
  xval (s_iconst (z := 0) (by decide +kernel) (by decide)) (
  xval (s_zret (by decide +kernel)) (
  xval_nil))))))))))))))))
theorem c_T_isLetter : xMet xCl y_T_isLetter ws_T_isLetter rm_T_isLetter (xRun tb_T_isLetter 1) := xMet.of (by decide) rfl v_T_isLetter
def tb_T_isDigit : xT := [(0, o_iload 0 1), (1, o_i 48 2), (3, o_ic (fun a b => a < b) 16), (6, o_iload 0 1), (7, o_i 57 2), (9, o_ic (fun a b => b < a) 16), (12, o_i 1 1), (13, o_goto 17), (16, o_i 0 1), (17, o_zret)]
abbrev y_T_isDigit : MethodName := ⟨"NameMover$Text", "isDigit", "(I)Z"⟩
abbrev rm_T_isDigit : Room := { frames := 0, cells := 0, slots := 0, locals := 0 }
abbrev ws_T_isDigit : List Cond := Cond.code y_T_isDigit prog_9_method_13_code 1 (some .boolean) :: xtt
set_option maxRecDepth 100000 in
theorem v_T_isDigit : ∀ q ∈ tb_T_isDigit, xSd (0, 0) x0 xCl "NameMover$Text" ws_T_isDigit prog_9_method_13_code 1 (some .boolean) rm_T_isDigit q :=
  xval (s_iload_n (f := 0) (by decide +kernel) rfl) (
  xval (s_bipush (z := 48) (by decide +kernel) (by decide)) (
  xval (s_iclt (z := 13) (by decide +kernel) (by decide)) (
  xval (s_iload_n (f := 0) (by decide +kernel) rfl) (
  xval (s_bipush (z := 57) (by decide +kernel) (by decide)) (
  xval (s_icgt (z := 7) (by decide +kernel) (by decide)) (
  xval (s_iconst (z := 1) (by decide +kernel) (by decide)) (
  xval (s_goto (z := 4) (by decide +kernel) (by decide)) (
  xval (s_iconst (z := 0) (by decide +kernel) (by decide)) (
  xval (s_zret (by decide +kernel)) (
  xval_nil))))))))))
theorem c_T_isDigit : xMet xCl y_T_isDigit ws_T_isDigit rm_T_isDigit (xRun tb_T_isDigit 1) := xMet.of (by decide) rfl v_T_isDigit
def tb_T_isClassName : xT := [(0, o_lload 0 1), (1, o_call (xRun tb_T_length 3) 1 0 0), (4, o_istore 2 1), (5, o_i 1 1), (6, o_istore 3 1), (7, o_i 0 1), (8, o_istore 4 2), (10, o_iload 4 2), (12, o_iload 2 1), (13, o_ic (fun a b => b ≤ a) 79), (16, o_lload 0 1), (17, o_iload 4 2), (19, o_call (xRun tb_T_charAt 3) 2 0 0), (22, o_istore 5 2), (24, o_iload 3 1), (25, o_if (fun a => a = 0) 43), (28, o_iload 5 2), (30, o_call (xRun tb_T_isLetter 1) 1 0 0), (33, o_ifn (fun a => a = 0) 38), (36, o_i 0 1), (37, o_zret), (38, o_i 0 1), (39, o_istore 3 1), (40, o_goto 73), (43, o_iload 5 2), (45, o_i 47 2), (47, o_icn (fun a b => a = b) 55), (50, o_i 1 1), (51, o_istore 3 1), (52, o_goto 73), (55, o_iload 5 2), (57, o_call (xRun tb_T_isLetter 1) 1 0 0), (60, o_ifn (fun a => a = 0) 73), (63, o_iload 5 2), (65, o_call (xRun tb_T_isDigit 1) 1 0 0), (68, o_ifn (fun a => a = 0) 73), (71, o_i 0 1), (72, o_zret), (73, o_iinc 4 1), (76, o_goto 10), (79, o_iload 3 1), (80, o_ifn (fun a => a = 0) 87), (83, o_i 1 1), (84, o_goto 88), (87, o_i 0 1), (88, o_zret)]
abbrev y_T_isClassName : MethodName := ⟨"NameMover$Text", "isClassName", "(J)Z"⟩
abbrev rm_T_isClassName : Room := { frames := 2, cells := 0, slots := 0, locals := 44 }
abbrev ws_T_isClassName : List Cond := Cond.code y_T_isClassName prog_9_method_5_code 6 (some .boolean) :: xtt
set_option maxRecDepth 100000 in
theorem v_T_isClassName : ∀ q ∈ tb_T_isClassName, xSd (0, 0) x0 xCl "NameMover$Text" ws_T_isClassName prog_9_method_5_code 6 (some .boolean) rm_T_isClassName q :=
  xval (s_lload_n (f := 0) (by decide +kernel) rfl) (
  xval (s_callS (i := 13) c_T_length (by decide +kernel) rfl (xtt_good tw_272) (tc tw_270) (tc tw_271) (tc tw_7) ⟨by decide, by decide, by decide +kernel⟩ ⟨by decide, by decide, rfl, rfl, by decide, by decide⟩ x0_e) (
  xval (s_istore_n (f := 2) (by decide +kernel) rfl (by decide)) (
  xval (s_iconst (z := 1) (by decide +kernel) (by decide)) (
  xval (s_istore_n (f := 3) (by decide +kernel) rfl (by decide)) (
  xval (s_iconst (z := 0) (by decide +kernel) (by decide)) (
  xval (s_istore (by decide +kernel) (by decide)) (
  xval (s_iload (by decide +kernel)) (
  xval (s_iload_n (f := 2) (by decide +kernel) rfl) (
  xval (s_icge (z := 66) (by decide +kernel) (by decide)) (
  xval (s_lload_n (f := 0) (by decide +kernel) rfl) (
  xval (s_iload (by decide +kernel)) (
  xval (s_callS (i := 9) c_T_charAt (by decide +kernel) rfl (xtt_good tw_222) (tc tw_220) (tc tw_221) (tc tw_7) ⟨by decide, by decide, by decide +kernel⟩ ⟨by decide, by decide, rfl, rfl, by decide, by decide⟩ x0_e) (
  xval (s_istore (by decide +kernel) (by decide)) (
  xval (s_iload_n (f := 3) (by decide +kernel) rfl) (
  xval (s_ifeq (z := 18) (by decide +kernel) (by decide)) (
  xval (s_iload (by decide +kernel)) (
  xval (s_callS (i := 17) c_T_isLetter (by decide +kernel) rfl (xtt_good tw_275) (tc tw_273) (tc tw_274) (tc tw_7) ⟨by decide, by decide, by decide +kernel⟩ ⟨by decide, by decide, rfl, rfl, by decide, by decide⟩ x0_e) (
  xval (s_ifne (z := 5) (by decide +kernel) (by decide)) (
  xval (s_iconst (z := 0) (by decide +kernel) (by decide)) (
  xval (s_zret (by decide +kernel)) (
  xval (s_iconst (z := 0) (by decide +kernel) (by decide)) (
  xval (s_istore_n (f := 3) (by decide +kernel) rfl (by decide)) (
  xval (s_goto (z := 33) (by decide +kernel) (by decide)) (
  xval (s_iload (by decide +kernel)) (
  xval (s_bipush (z := 47) (by decide +kernel) (by decide)) (
  xval (s_icne (z := 8) (by decide +kernel) (by decide)) (
  xval (s_iconst (z := 1) (by decide +kernel) (by decide)) (
  xval (s_istore_n (f := 3) (by decide +kernel) rfl (by decide)) (
  xval (s_goto (z := 21) (by decide +kernel) (by decide)) (
  xval (s_iload (by decide +kernel)) (
  xval (s_callS (i := 17) c_T_isLetter (by decide +kernel) rfl (xtt_good tw_275) (tc tw_273) (tc tw_274) (tc tw_7) ⟨by decide, by decide, by decide +kernel⟩ ⟨by decide, by decide, rfl, rfl, by decide, by decide⟩ x0_e) (
  xval (s_ifne (z := 13) (by decide +kernel) (by decide)) (
  xval (s_iload (by decide +kernel)) (
  xval (s_callS (i := 21) c_T_isDigit (by decide +kernel) rfl (xtt_good tw_278) (tc tw_276) (tc tw_277) (tc tw_7) ⟨by decide, by decide, by decide +kernel⟩ ⟨by decide, by decide, rfl, rfl, by decide, by decide⟩ x0_e) (
  xval (s_ifne (z := 5) (by decide +kernel) (by decide)) (
  xval (s_iconst (z := 0) (by decide +kernel) (by decide)) (
  xval (s_zret (by decide +kernel)) (
  xval (s_iinc (z := 1) (by decide +kernel) (by decide) (by decide)) (
  xval (s_goto (z := (-66)) (by decide +kernel) (by decide)) (
  xval (s_iload_n (f := 3) (by decide +kernel) rfl) (
  xval (s_ifne (z := 7) (by decide +kernel) (by decide)) (
  xval (s_iconst (z := 1) (by decide +kernel) (by decide)) (
  xval (s_goto (z := 4) (by decide +kernel) (by decide)) (
  xval (s_iconst (z := 0) (by decide +kernel) (by decide)) (
  xval (s_zret (by decide +kernel)) (
  xval_nil))))))))))))))))))))))))))))))))))))))))))))))
theorem c_T_isClassName : xMet xCl y_T_isClassName ws_T_isClassName rm_T_isClassName (xRun tb_T_isClassName 6) := xMet.of (by decide) rfl v_T_isClassName
def tb_S_isClass : xT := [(0, o_iload 1 1), (1, o_if (fun a => a < 0) 16), (4, o_iload 1 1), (5, o_aload 0 1), (6, o_getf 1 10), (9, o_ic (fun a b => b ≤ a) 16), (12, o_i 1 1), (13, o_goto 17), (16, o_i 0 1), (17, o_zret)]
abbrev y_S_isClass : MethodName := ⟨"NameMover$Store", "isClass", "(I)Z"⟩
abbrev rm_S_isClass : Room := { frames := 0, cells := 0, slots := 0, locals := 0 }
abbrev ws_S_isClass : List Cond := Cond.code y_S_isClass prog_8_method_5_code 2 (some .boolean) :: xtt
set_option maxRecDepth 100000 in
theorem v_S_isClass : ∀ q ∈ tb_S_isClass, xSd (0, 0) x0 xCl "NameMover$Store" ws_S_isClass prog_8_method_5_code 2 (some .boolean) rm_S_isClass q :=
  xval (s_iload_n (f := 1) (by decide +kernel) rfl) (
  xval (s_iflt (z := 15) (by decide +kernel) (by decide)) (
  xval (s_iload_n (f := 1) (by decide +kernel) rfl) (
  xval (s_aload_n (f := 0) (by decide +kernel) rfl) (
  xval (s_getf (i := 42) (by decide +kernel) rfl tin_S (by decide) (tc tw_60)) (
  xval (s_icge (z := 7) (by decide +kernel) (by decide)) (
  xval (s_iconst (z := 1) (by decide +kernel) (by decide)) (
  xval (s_goto (z := 4) (by decide +kernel) (by decide)) (
  xval (s_iconst (z := 0) (by decide +kernel) (by decide)) (
  xval (s_zret (by decide +kernel)) (
  xval_nil))))))))))
theorem c_S_isClass : xMet xCl y_S_isClass ws_S_isClass rm_S_isClass (xRun tb_S_isClass 2) := xMet.of (by decide) rfl v_S_isClass
def tb_S_numbersEnd : xT := [(0, o_i 8 2), (2, o_aload 0 1), (3, o_getf 1 10), (6, o_ii (fun a b => a * b)), (7, o_iret)]
abbrev y_S_numbersEnd : MethodName := ⟨"NameMover$Store", "numbersEnd", "()I"⟩
abbrev rm_S_numbersEnd : Room := { frames := 0, cells := 0, slots := 0, locals := 0 }
abbrev ws_S_numbersEnd : List Cond := Cond.code y_S_numbersEnd prog_8_method_4_code 1 (some .int) :: xtt
set_option maxRecDepth 100000 in
theorem v_S_numbersEnd : ∀ q ∈ tb_S_numbersEnd, xSd (0, 0) x0 xCl "NameMover$Store" ws_S_numbersEnd prog_8_method_4_code 1 (some .int) rm_S_numbersEnd q :=
  xval (s_bipush (z := 8) (by decide +kernel) (by decide)) (
  xval (s_aload_n (f := 0) (by decide +kernel) rfl) (
  xval (s_getf (i := 42) (by decide +kernel) rfl tin_S (by decide) (tc tw_60)) (
  xval (s_imul (by decide +kernel)) (
  xval (s_iret (by decide +kernel)) (
  xval_nil)))))
theorem c_S_numbersEnd : xMet xCl y_S_numbersEnd ws_S_numbersEnd rm_S_numbersEnd (xRun tb_S_numbersEnd 1) := xMet.of (by decide) rfl v_S_numbersEnd
def tb_S_classOf : xT := [(0, o_iload 0 1), (1, o_i 8 2), (3, o_dr (fun a b => a / b)), (4, o_iret)]
abbrev y_S_classOf : MethodName := ⟨"NameMover$Store", "classOf", "(I)I"⟩
abbrev rm_S_classOf : Room := { frames := 0, cells := 0, slots := 0, locals := 0 }
abbrev ws_S_classOf : List Cond := Cond.code y_S_classOf prog_8_method_3_code 1 (some .int) :: xtt
set_option maxRecDepth 100000 in
theorem v_S_classOf : ∀ q ∈ tb_S_classOf, xSd (0, 0) x0 xCl "NameMover$Store" ws_S_classOf prog_8_method_3_code 1 (some .int) rm_S_classOf q :=
  xval (s_iload_n (f := 0) (by decide +kernel) rfl) (
  xval (s_bipush (z := 8) (by decide +kernel) (by decide)) (
  xval (s_idiv (by decide +kernel)) (
  xval (s_iret (by decide +kernel)) (
  xval_nil))))
theorem c_S_classOf : xMet xCl y_S_classOf ws_S_classOf rm_S_classOf (xRun tb_S_classOf 1) := xMet.of (by decide) rfl v_S_classOf
def tb_S_isMember : xT := [(0, o_aload 0 1), (1, o_iload 1 1), (2, o_callV (xRun tb_S_isClass 2) 1 1 0 0), (5, o_if (fun a => a = 0) 26), (8, o_iload 2 1), (9, o_if (fun a => a < 0) 26), (12, o_iload 2 1), (13, o_aload 0 1), (14, o_getf 1 4), (17, o_iload 1 1), (18, o_iaload), (19, o_ic (fun a b => b ≤ a) 26), (22, o_i 1 1), (23, o_goto 27), (26, o_i 0 1), (27, o_zret)]
abbrev y_S_isMember : MethodName := ⟨"NameMover$Store", "isMember", "(II)Z"⟩
abbrev rm_S_isMember : Room := { frames := 1, cells := 0, slots := 0, locals := 21 }
abbrev ws_S_isMember : List Cond := Cond.code y_S_isMember prog_8_method_6_code 3 (some .boolean) :: xtt
set_option maxRecDepth 100000 in
theorem v_S_isMember : ∀ q ∈ tb_S_isMember, xSd (0, 0) x0 xCl "NameMover$Store" ws_S_isMember prog_8_method_6_code 3 (some .boolean) rm_S_isMember q :=
  xval (s_aload_n (f := 0) (by decide +kernel) rfl) (
  xval (s_iload_n (f := 1) (by decide +kernel) rfl) (
  xval (s_callV (i := 46) c_S_isClass (by decide +kernel) rfl (xtt_good tw_203) rfl (tc tw_200) (tc tw_201) (tc tw_202) (tc tw_2) ⟨by decide, by decide, by decide +kernel⟩ ⟨by decide, by decide, rfl, rfl, by decide, by decide⟩ x0_e) (
  xval (s_ifeq (z := 21) (by decide +kernel) (by decide)) (
  xval (s_iload_n (f := 2) (by decide +kernel) rfl) (
  xval (s_iflt (z := 17) (by decide +kernel) (by decide)) (
  xval (s_iload_n (f := 2) (by decide +kernel) rfl) (
  xval (s_aload_n (f := 0) (by decide +kernel) rfl) (
  xval (s_getf (i := 24) (by decide +kernel) rfl tin_S (by decide) (tc tw_45)) (
  xval (s_iload_n (f := 1) (by decide +kernel) rfl) (
  xval (s_iaload (by decide +kernel)) (
  xval (s_icge (z := 7) (by decide +kernel) (by decide)) (
  xval (s_iconst (z := 1) (by decide +kernel) (by decide)) (
  xval (s_goto (z := 4) (by decide +kernel) (by decide)) (
  xval (s_iconst (z := 0) (by decide +kernel) (by decide)) (
  xval (s_zret (by decide +kernel)) (
  xval_nil))))))))))))))))
theorem c_S_isMember : xMet xCl y_S_isMember ws_S_isMember rm_S_isMember (xRun tb_S_isMember 3) := xMet.of (by decide) rfl v_S_isMember
def tb_S_isMemberNumber : xT := [(0, o_iload 1 1), (1, o_if (fun a => a < 0) 23), (4, o_aload 0 1), (5, o_iload 1 1), (6, o_call (xRun tb_S_classOf 1) 1 0 0), (9, o_iload 1 1), (10, o_i 8 2), (12, o_dr (fun a b => a - a / b * b)), (13, o_callV (xRun tb_S_isMember 3) 1 2 0 0), (16, o_if (fun a => a = 0) 23), (19, o_i 1 1), (20, o_goto 24), (23, o_i 0 1), (24, o_zret)]
abbrev y_S_isMemberNumber : MethodName := ⟨"NameMover$Store", "isMemberNumber", "(I)Z"⟩
abbrev rm_S_isMemberNumber : Room := { frames := 2, cells := 0, slots := 0, locals := 43 }
abbrev ws_S_isMemberNumber : List Cond := Cond.code y_S_isMemberNumber prog_8_method_7_code 2 (some .boolean) :: xtt
set_option maxRecDepth 100000 in
theorem v_S_isMemberNumber : ∀ q ∈ tb_S_isMemberNumber, xSd (0, 0) x0 xCl "NameMover$Store" ws_S_isMemberNumber prog_8_method_7_code 2 (some .boolean) rm_S_isMemberNumber q :=
  xval (s_iload_n (f := 1) (by decide +kernel) rfl) (
  xval (s_iflt (z := 22) (by decide +kernel) (by decide)) (
  xval (s_aload_n (f := 0) (by decide +kernel) rfl) (
  xval (s_iload_n (f := 1) (by decide +kernel) rfl) (
  xval (s_callS (i := 50) c_S_classOf (by decide +kernel) rfl (xtt_good tw_195) (tc tw_193) (tc tw_194) (tc tw_2) ⟨by decide, by decide, by decide +kernel⟩ ⟨by decide, by decide, rfl, rfl, by decide, by decide⟩ x0_e) (
  xval (s_iload_n (f := 1) (by decide +kernel) rfl) (
  xval (s_bipush (z := 8) (by decide +kernel) (by decide)) (
  xval (s_irem (by decide +kernel)) (
  xval (s_callV (i := 54) c_S_isMember (by decide +kernel) rfl (xtt_good tw_199) rfl (tc tw_196) (tc tw_197) (tc tw_198) (tc tw_2) ⟨by decide, by decide, by decide +kernel⟩ ⟨by decide, by decide, rfl, rfl, by decide, by decide⟩ x0_e) (
  xval (s_ifeq (z := 7) (by decide +kernel) (by decide)) (
  xval (s_iconst (z := 1) (by decide +kernel) (by decide)) (
  xval (s_goto (z := 4) (by decide +kernel) (by decide)) (
  xval (s_iconst (z := 0) (by decide +kernel) (by decide)) (
  xval (s_zret (by decide +kernel)) (
  xval_nil))))))))))))))
theorem c_S_isMemberNumber : xMet xCl y_S_isMemberNumber ws_S_isMemberNumber rm_S_isMemberNumber (xRun tb_S_isMemberNumber 2) := xMet.of (by decide) rfl v_S_isMemberNumber
def tb_S_changedNames : xT := [(0, o_i 0 1), (1, o_istore 1 1), (2, o_i 0 1), (3, o_istore 2 1), (4, o_iload 2 1), (5, o_aload 0 1), (6, o_getf 1 10), (9, o_ic (fun a b => b ≤ a) 37), (12, o_aload 0 1), (13, o_getf 1 1), (16, o_iload 2 1), (17, o_laload), (18, o_aload 0 1), (19, o_getf 1 0), (22, o_iload 2 1), (23, o_laload), (24, o_lcmp), (25, o_if (fun a => a = 0) 31), (28, o_iinc 1 1), (31, o_iinc 2 1), (34, o_goto 4), (37, o_i 0 1), (38, o_istore 2 1), (39, o_iload 2 1), (40, o_aload 0 1), (41, o_callV (xRun tb_S_numbersEnd 1) 1 0 0 0), (44, o_ic (fun a b => b ≤ a) 80), (47, o_aload 0 1), (48, o_iload 2 1), (49, o_callV (xRun tb_S_isMemberNumber 2) 1 1 0 0), (52, o_if (fun a => a = 0) 74), (55, o_aload 0 1), (56, o_getf 1 7), (59, o_iload 2 1), (60, o_laload), (61, o_aload 0 1), (62, o_getf 1 6), (65, o_iload 2 1), (66, o_laload), (67, o_lcmp), (68, o_if (fun a => a = 0) 74), (71, o_iinc 1 1), (74, o_iinc 2 1), (77, o_goto 39), (80, o_iload 1 1), (81, o_iret)]
abbrev y_S_changedNames : MethodName := ⟨"NameMover$Store", "changedNames", "()I"⟩
abbrev rm_S_changedNames : Room := { frames := 3, cells := 0, slots := 0, locals := 64 }
abbrev ws_S_changedNames : List Cond := Cond.code y_S_changedNames prog_8_method_18_code 3 (some .int) :: xtt
set_option maxRecDepth 100000 in
theorem v_S_changedNames : ∀ q ∈ tb_S_changedNames, xSd (0, 0) x0 xCl "NameMover$Store" ws_S_changedNames prog_8_method_18_code 3 (some .int) rm_S_changedNames q :=
  xval (s_iconst (z := 0) (by decide +kernel) (by decide)) (
  xval (s_istore_n (f := 1) (by decide +kernel) rfl (by decide)) (
  xval (s_iconst (z := 0) (by decide +kernel) (by decide)) (
  xval (s_istore_n (f := 2) (by decide +kernel) rfl (by decide)) (
  xval (s_iload_n (f := 2) (by decide +kernel) rfl) (
  xval (s_aload_n (f := 0) (by decide +kernel) rfl) (
  xval (s_getf (i := 42) (by decide +kernel) rfl tin_S (by decide) (tc tw_60)) (
  xval (s_icge (z := 28) (by decide +kernel) (by decide)) (
  xval (s_aload_n (f := 0) (by decide +kernel) rfl) (
  xval (s_getf (i := 13) (by decide +kernel) rfl tin_S (by decide) (tc tw_37)) (
  xval (s_iload_n (f := 2) (by decide +kernel) rfl) (
  xval (s_laload (by decide +kernel)) (
  xval (s_aload_n (f := 0) (by decide +kernel) rfl) (
  xval (s_getf (i := 9) (by decide +kernel) rfl tin_S (by decide) (tc tw_33)) (
  xval (s_iload_n (f := 2) (by decide +kernel) rfl) (
  xval (s_laload (by decide +kernel)) (
  xval (s_lcmp (by decide +kernel)) (
  xval (s_ifeq (z := 6) (by decide +kernel) (by decide)) (
  xval (s_iinc (z := 1) (by decide +kernel) (by decide) (by decide)) (
  xval (s_iinc (z := 1) (by decide +kernel) (by decide) (by decide)) (
  xval (s_goto (z := (-30)) (by decide +kernel) (by decide)) (
  xval (s_iconst (z := 0) (by decide +kernel) (by decide)) (
  xval (s_istore_n (f := 2) (by decide +kernel) rfl (by decide)) (
  xval (s_iload_n (f := 2) (by decide +kernel) rfl) (
  xval (s_aload_n (f := 0) (by decide +kernel) rfl) (
  xval (s_callV (i := 73) c_S_numbersEnd (by decide +kernel) rfl (xtt_good tw_188) rfl (tc tw_244) (tc tw_186) (tc tw_187) (tc tw_2) ⟨by decide, by decide, by decide +kernel⟩ ⟨by decide, by decide, rfl, rfl, by decide, by decide⟩ x0_e) (
  xval (s_icge (z := 36) (by decide +kernel) (by decide)) (
  xval (s_aload_n (f := 0) (by decide +kernel) rfl) (
  xval (s_iload_n (f := 2) (by decide +kernel) rfl) (
  xval (s_callV (i := 76) c_S_isMemberNumber (by decide +kernel) rfl (xtt_good tw_192) rfl (tc tw_245) (tc tw_190) (tc tw_191) (tc tw_2) ⟨by decide, by decide, by decide +kernel⟩ ⟨by decide, by decide, rfl, rfl, by decide, by decide⟩ x0_e) (
  xval (s_ifeq (z := 22) (by decide +kernel) (by decide)) (
  xval (s_aload_n (f := 0) (by decide +kernel) rfl) (
  xval (s_getf (i := 33) (by decide +kernel) rfl tin_S (by decide) (tc tw_52)) (
  xval (s_iload_n (f := 2) (by decide +kernel) rfl) (
  xval (s_laload (by decide +kernel)) (
  xval (s_aload_n (f := 0) (by decide +kernel) rfl) (
  xval (s_getf (i := 30) (by decide +kernel) rfl tin_S (by decide) (tc tw_48)) (
  xval (s_iload_n (f := 2) (by decide +kernel) rfl) (
  xval (s_laload (by decide +kernel)) (
  xval (s_lcmp (by decide +kernel)) (
  xval (s_ifeq (z := 6) (by decide +kernel) (by decide)) (
  xval (s_iinc (z := 1) (by decide +kernel) (by decide) (by decide)) (
  xval (s_iinc (z := 1) (by decide +kernel) (by decide) (by decide)) (
  xval (s_goto (z := (-38)) (by decide +kernel) (by decide)) (
  xval (s_iload_n (f := 1) (by decide +kernel) rfl) (
  xval (s_iret (by decide +kernel)) (
  xval_nil))))))))))))))))))))))))))))))))))))))))))))))
theorem c_S_changedNames : xMet xCl y_S_changedNames ws_S_changedNames rm_S_changedNames (xRun tb_S_changedNames 3) := xMet.of (by decide) rfl v_S_changedNames
def tb_S_isMoving : xT := [(0, o_aload 0 1), (1, o_callV (xRun tb_S_changedNames 3) 1 0 0 0), (4, o_if (fun a => a ≤ 0) 11), (7, o_i 1 1), (8, o_goto 12), (11, o_i 0 1), (12, o_zret)]
abbrev y_S_isMoving : MethodName := ⟨"NameMover$Store", "isMoving", "()Z"⟩
abbrev rm_S_isMoving : Room := { frames := 4, cells := 0, slots := 0, locals := 86 }
abbrev ws_S_isMoving : List Cond := Cond.code y_S_isMoving prog_8_method_17_code 1 (some .boolean) :: xtt
set_option maxRecDepth 100000 in
theorem v_S_isMoving : ∀ q ∈ tb_S_isMoving, xSd (0, 0) x0 xCl "NameMover$Store" ws_S_isMoving prog_8_method_17_code 1 (some .boolean) rm_S_isMoving q :=
  xval (s_aload_n (f := 0) (by decide +kernel) rfl) (
  xval (s_callV (i := 69) c_S_changedNames (by decide +kernel) rfl (xtt_good tw_243) rfl (tc tw_369) (tc tw_241) (tc tw_242) (tc tw_2) ⟨by decide, by decide, by decide +kernel⟩ ⟨by decide, by decide, rfl, rfl, by decide, by decide⟩ x0_e) (
  xval (s_ifle (z := 7) (by decide +kernel) (by decide)) (
  xval (s_iconst (z := 1) (by decide +kernel) (by decide)) (
  xval (s_goto (z := 4) (by decide +kernel) (by decide)) (
  xval (s_iconst (z := 0) (by decide +kernel) (by decide)) (
  xval (s_zret (by decide +kernel)) (
  xval_nil)))))))
theorem c_S_isMoving : xMet xCl y_S_isMoving ws_S_isMoving rm_S_isMoving (xRun tb_S_isMoving 1) := xMet.of (by decide) rfl v_S_isMoving
def tb_S_isFull : xT := [(0, o_aload 0 1), (1, o_getf 1 10), (4, o_i 8 2), (6, o_ic (fun a b => a < b) 13), (9, o_i 1 1), (10, o_goto 14), (13, o_i 0 1), (14, o_zret)]
abbrev y_S_isFull : MethodName := ⟨"NameMover$Store", "isFull", "()Z"⟩
abbrev rm_S_isFull : Room := { frames := 0, cells := 0, slots := 0, locals := 0 }
abbrev ws_S_isFull : List Cond := Cond.code y_S_isFull prog_8_method_8_code 1 (some .boolean) :: xtt
set_option maxRecDepth 100000 in
theorem v_S_isFull : ∀ q ∈ tb_S_isFull, xSd (0, 0) x0 xCl "NameMover$Store" ws_S_isFull prog_8_method_8_code 1 (some .boolean) rm_S_isFull q :=
  xval (s_aload_n (f := 0) (by decide +kernel) rfl) (
  xval (s_getf (i := 42) (by decide +kernel) rfl tin_S (by decide) (tc tw_60)) (
  xval (s_bipush (z := 8) (by decide +kernel) (by decide)) (
  xval (s_iclt (z := 7) (by decide +kernel) (by decide)) (
  xval (s_iconst (z := 1) (by decide +kernel) (by decide)) (
  xval (s_goto (z := 4) (by decide +kernel) (by decide)) (
  xval (s_iconst (z := 0) (by decide +kernel) (by decide)) (
  xval (s_zret (by decide +kernel)) (
  xval_nil))))))))
theorem c_S_isFull : xMet xCl y_S_isFull ws_S_isFull rm_S_isFull (xRun tb_S_isFull 1) := xMet.of (by decide) rfl v_S_isFull
def tb_S_classNamed : xT := [(0, o_i 0 1), (1, o_istore 4 2), (3, o_iload 4 2), (5, o_iload 3 1), (6, o_ic (fun a b => b ≤ a) 37), (9, o_iload 4 2), (11, o_i 8 2), (13, o_ic (fun a b => b ≤ a) 37), (16, o_aload 0 1), (17, o_getf 1 0), (20, o_iload 4 2), (22, o_laload), (23, o_lload 1 1), (24, o_lcmp), (25, o_ifn (fun a => a = 0) 31), (28, o_iload 4 2), (30, o_iret), (31, o_iinc 4 1), (34, o_goto 3), (37, o_i (-1) 1), (38, o_iret)]
abbrev y_S_classNamed : MethodName := ⟨"NameMover$Store", "classNamed", "(JI)I"⟩
abbrev rm_S_classNamed : Room := { frames := 0, cells := 0, slots := 0, locals := 0 }
abbrev ws_S_classNamed : List Cond := Cond.code y_S_classNamed prog_8_method_9_code 5 (some .int) :: xtt
set_option maxRecDepth 100000 in
theorem v_S_classNamed : ∀ q ∈ tb_S_classNamed, xSd (0, 0) x0 xCl "NameMover$Store" ws_S_classNamed prog_8_method_9_code 5 (some .int) rm_S_classNamed q :=
  xval (s_iconst (z := 0) (by decide +kernel) (by decide)) (
  xval (s_istore (by decide +kernel) (by decide)) (
  xval (s_iload (by decide +kernel)) (
  xval (s_iload_n (f := 3) (by decide +kernel) rfl) (
  xval (s_icge (z := 31) (by decide +kernel) (by decide)) (
  xval (s_iload (by decide +kernel)) (
  xval (s_bipush (z := 8) (by decide +kernel) (by decide)) (
  xval (s_icge (z := 24) (by decide +kernel) (by decide)) (
  xval (s_aload_n (f := 0) (by decide +kernel) rfl) (
  xval (s_getf (i := 9) (by decide +kernel) rfl tin_S (by decide) (tc tw_33)) (
  xval (s_iload (by decide +kernel)) (
  xval (s_laload (by decide +kernel)) (
  xval (s_lload_n (f := 1) (by decide +kernel) rfl) (
  xval (s_lcmp (by decide +kernel)) (
  xval (s_ifne (z := 6) (by decide +kernel) (by decide)) (
  xval (s_iload (by decide +kernel)) (
  xval (s_iret (by decide +kernel)) (
  xval (s_iinc (z := 1) (by decide +kernel) (by decide) (by decide)) (
  xval (s_goto (z := (-31)) (by decide +kernel) (by decide)) (
  xval (s_iconst (z := (-1)) (by decide +kernel) (by decide)) (
  xval (s_iret (by decide +kernel)) (
  xval_nil)))))))))))))))))))))
theorem c_S_classNamed : xMet xCl y_S_classNamed ws_S_classNamed rm_S_classNamed (xRun tb_S_classNamed 5) := xMet.of (by decide) rfl v_S_classNamed
def tb_S_placeClass : xT := [(0, o_aload 0 1), (1, o_getf 1 0), (4, o_aload 0 1), (5, o_getf 1 10), (8, o_lload 1 1), (9, o_lastore), (10, o_aload 0 1), (11, o_getf 1 1), (14, o_aload 0 1), (15, o_getf 1 10), (18, o_lload 1 1), (19, o_lastore), (20, o_aload 0 1), (21, o_getf 1 2), (24, o_aload 0 1), (25, o_getf 1 10), (28, o_iload 3 1), (29, o_iastore), (30, o_aload 0 1), (31, o_getf 1 3), (34, o_aload 0 1), (35, o_getf 1 10), (38, o_iload 4 2), (40, o_bastore), (41, o_aload 0 1), (42, o_getf 1 4), (45, o_aload 0 1), (46, o_getf 1 10), (49, o_i 0 1), (50, o_iastore), (51, o_aload 0 1), (52, o_getf 1 5), (55, o_aload 0 1), (56, o_getf 1 10), (59, o_iload 3 1), (60, o_i (-1) 1), (61, o_icn (fun a b => a = b) 68), (64, o_i 0 1), (65, o_goto 78), (68, o_aload 0 1), (69, o_getf 1 5), (72, o_iload 3 1), (73, o_iaload), (74, o_i 1 1), (75, o_iload 3 1), (76, o_ii (fun a b => a <<< (b &&& 31))), (77, o_ii (fun a b => a ||| b)), (78, o_iastore), (79, o_vret)]
abbrev y_S_placeClass : MethodName := ⟨"NameMover$Store", "placeClass", "(JIZ)V"⟩
abbrev rm_S_placeClass : Room := { frames := 0, cells := 0, slots := 0, locals := 0 }
abbrev ws_S_placeClass : List Cond := Cond.code y_S_placeClass prog_8_method_14_code 5 (none) :: xtt
set_option maxRecDepth 100000 in
theorem v_S_placeClass : ∀ q ∈ tb_S_placeClass, xSd (0, 0) x0 xCl "NameMover$Store" ws_S_placeClass prog_8_method_14_code 5 (none) rm_S_placeClass q :=
  xval (s_aload_n (f := 0) (by decide +kernel) rfl) (
  xval (s_getf (i := 9) (by decide +kernel) rfl tin_S (by decide) (tc tw_33)) (
  xval (s_aload_n (f := 0) (by decide +kernel) rfl) (
  xval (s_getf (i := 42) (by decide +kernel) rfl tin_S (by decide) (tc tw_60)) (
  xval (s_lload_n (f := 1) (by decide +kernel) rfl) (
  xval (s_lastore (by decide +kernel)) (
  xval (s_aload_n (f := 0) (by decide +kernel) rfl) (
  xval (s_getf (i := 13) (by decide +kernel) rfl tin_S (by decide) (tc tw_37)) (
  xval (s_aload_n (f := 0) (by decide +kernel) rfl) (
  xval (s_getf (i := 42) (by decide +kernel) rfl tin_S (by decide) (tc tw_60)) (
  xval (s_lload_n (f := 1) (by decide +kernel) rfl) (
  xval (s_lastore (by decide +kernel)) (
  xval (s_aload_n (f := 0) (by decide +kernel) rfl) (
  xval (s_getf (i := 16) (by decide +kernel) rfl tin_S (by decide) (tc tw_40)) (
  xval (s_aload_n (f := 0) (by decide +kernel) rfl) (
  xval (s_getf (i := 42) (by decide +kernel) rfl tin_S (by decide) (tc tw_60)) (
  xval (s_iload_n (f := 3) (by decide +kernel) rfl) (
  xval (s_iastore (by decide +kernel)) (
  xval (s_aload_n (f := 0) (by decide +kernel) rfl) (
  xval (s_getf (i := 20) (by decide +kernel) rfl tin_S (by decide) (tc tw_42)) (
  xval (s_aload_n (f := 0) (by decide +kernel) rfl) (
  xval (s_getf (i := 42) (by decide +kernel) rfl tin_S (by decide) (tc tw_60)) (
  xval (s_iload (by decide +kernel)) (
  xval (s_bastore (by decide +kernel)) (
  xval (s_aload_n (f := 0) (by decide +kernel) rfl) (
  xval (s_getf (i := 24) (by decide +kernel) rfl tin_S (by decide) (tc tw_45)) (
  xval (s_aload_n (f := 0) (by decide +kernel) rfl) (
  xval (s_getf (i := 42) (by decide +kernel) rfl tin_S (by decide) (tc tw_60)) (
  xval (s_iconst (z := 0) (by decide +kernel) (by decide)) (
  xval (s_iastore (by decide +kernel)) (
  xval (s_aload_n (f := 0) (by decide +kernel) rfl) (
  xval (s_getf (i := 27) (by decide +kernel) rfl tin_S (by decide) (tc tw_47)) (
  xval (s_aload_n (f := 0) (by decide +kernel) rfl) (
  xval (s_getf (i := 42) (by decide +kernel) rfl tin_S (by decide) (tc tw_60)) (
  xval (s_iload_n (f := 3) (by decide +kernel) rfl) (
  xval (s_iconst (z := (-1)) (by decide +kernel) (by decide)) (
  xval (s_icne (z := 7) (by decide +kernel) (by decide)) (
  xval (s_iconst (z := 0) (by decide +kernel) (by decide)) (
  xval (s_goto (z := 13) (by decide +kernel) (by decide)) (
  xval (s_aload_n (f := 0) (by decide +kernel) rfl) (
  xval (s_getf (i := 27) (by decide +kernel) rfl tin_S (by decide) (tc tw_47)) (
  xval (s_iload_n (f := 3) (by decide +kernel) rfl) (
  xval (s_iaload (by decide +kernel)) (
  xval (s_iconst (z := 1) (by decide +kernel) (by decide)) (
  xval (s_iload_n (f := 3) (by decide +kernel) rfl) (
  xval (s_ishl (by decide +kernel)) (
  xval (s_ior (by decide +kernel)) (
  xval (s_iastore (by decide +kernel)) (
  xval (s_vret (by decide +kernel)) (
  xval_nil)))))))))))))))))))))))))))))))))))))))))))))))))
theorem c_S_placeClass : xMet xCl y_S_placeClass ws_S_placeClass rm_S_placeClass (xRun tb_S_placeClass 5) := xMet.of (by decide) rfl v_S_placeClass
def tb_S_countPlacedClass : xT := [(0, o_aload 0 1), (1, o_dup), (2, o_getf 1 10), (5, o_i 1 1), (6, o_ii (fun a b => a + b)), (7, o_puti 1 10), (10, o_aload 0 1), (11, o_getf 1 10), (14, o_i 1 1), (15, o_ii (fun a b => a - b)), (16, o_iret)]
abbrev y_S_countPlacedClass : MethodName := ⟨"NameMover$Store", "countPlacedClass", "()I"⟩
abbrev rm_S_countPlacedClass : Room := { frames := 0, cells := 0, slots := 0, locals := 0 }
abbrev ws_S_countPlacedClass : List Cond := Cond.code y_S_countPlacedClass prog_8_method_15_code 1 (some .int) :: xtt
set_option maxRecDepth 100000 in
theorem v_S_countPlacedClass : ∀ q ∈ tb_S_countPlacedClass, xSd (0, 0) x0 xCl "NameMover$Store" ws_S_countPlacedClass prog_8_method_15_code 1 (some .int) rm_S_countPlacedClass q :=
  xval (s_aload_n (f := 0) (by decide +kernel) rfl) (
  xval (s_dup (by decide +kernel)) (
  xval (s_getf (i := 42) (by decide +kernel) rfl tin_S (by decide) (tc tw_60)) (
  xval (s_iconst (z := 1) (by decide +kernel) (by decide)) (
  xval (s_iadd (by decide +kernel)) (
  xval (s_puti (i := 42) (by decide +kernel) rfl tin_S (by decide) (tc tw_60) tS tS_ok nS rfl (by decide +kernel)) (
  xval (s_aload_n (f := 0) (by decide +kernel) rfl) (
  xval (s_getf (i := 42) (by decide +kernel) rfl tin_S (by decide) (tc tw_60)) (
  xval (s_iconst (z := 1) (by decide +kernel) (by decide)) (
  xval (s_isub (by decide +kernel)) (
  xval (s_iret (by decide +kernel)) (
  xval_nil)))))))))))
theorem c_S_countPlacedClass : xMet xCl y_S_countPlacedClass ws_S_countPlacedClass rm_S_countPlacedClass (xRun tb_S_countPlacedClass 1) := xMet.of (by decide) rfl v_S_countPlacedClass
def tb_N_declare : xT := [(0, o_lload 1 1), (1, o_call (xRun tb_T_isClassName 6) 1 1 0), (4, o_ifn (fun a => a = 0) 17), (7, o_throw 0 1), (17, o_iload 3 1), (18, o_i (-1) 1), (19, o_ic (fun a b => a = b) 43), (22, o_aload 0 1), (23, o_getf 0 0), (26, o_iload 3 1), (27, o_callV (xRun tb_S_isClass 2) 1 1 1 0), (30, o_ifn (fun a => a = 0) 43), (33, o_throw 1 1), (43, o_aload 0 1), (44, o_getf 0 0), (47, o_callV (xRun tb_S_isMoving 1) 1 0 1 0), (50, o_ifn (fun a => a = 0) 82), (53, o_aload 0 1), (54, o_getf 0 0), (57, o_callV (xRun tb_S_isFull 1) 1 0 1 0), (60, o_ifn (fun a => a = 0) 82), (63, o_aload 0 1), (64, o_getf 0 0), (67, o_lload 1 1), (68, o_aload 0 1), (69, o_getf 0 0), (72, o_getf 1 10), (75, o_callV (xRun tb_S_classNamed 5) 1 2 1 0), (78, o_i (-1) 1), (79, o_ic (fun a b => a = b) 92), (82, o_throw 2 1), (92, o_aload 0 1), (93, o_getf 0 0), (96, o_lload 1 1), (97, o_iload 3 1), (98, o_iload 4 2), (100, o_callV (xRun tb_S_placeClass 5) 1 3 1 0), (103, o_aload 0 1), (104, o_getf 0 0), (107, o_callV (xRun tb_S_countPlacedClass 1) 1 0 1 0), (110, o_iret)]
abbrev y_N_declare : MethodName := ⟨"NameMover", "declare", "(JIZ)I"⟩
abbrev rm_N_declare : Room := { frames := 6, cells := 1, slots := 6, locals := 106 }
abbrev ws_N_declare : List Cond := Cond.code y_N_declare prog_1_method_2_code 5 (some .int) :: xtt
set_option maxRecDepth 100000 in
theorem v_N_declare : ∀ q ∈ tb_N_declare, xSd (0, 0) x0 xCl "NameMover" ws_N_declare prog_1_method_2_code 5 (some .int) rm_N_declare q :=
  xval (s_lload_n (f := 1) (by decide +kernel) rfl) (
  xval (s_callS (i := 45) c_T_isClassName (by decide +kernel) rfl (xtt_good tw_269) (tc tw_267) (tc tw_268) (tc tw_7) ⟨by decide, by decide, by decide +kernel⟩ ⟨by decide, by decide, rfl, rfl, by decide, by decide⟩ x0_e) (
  xval (s_ifne (z := 13) (by decide +kernel) (by decide)) (
  xval (s_throw (i := 51) (ik := 53) (ic := 55) (j := 7) (bs := prog_13_method_2_code) (tx := "no class name") (by decide +kernel) (by decide +kernel) (by decide +kernel) (by decide +kernel) (by decide +kernel) (tc tw_279) (tc tw_280) (tc tw_11) (tc tw_321) (by decide +kernel) (by decide +kernel) (by decide +kernel) (by decide +kernel) (by decide +kernel) (tow_0 (tc tw_322)) ⟨by decide, by decide, by decide, by decide⟩ x0_e) (
  xval (s_iload_n (f := 3) (by decide +kernel) rfl) (
  xval (s_iconst (z := (-1)) (by decide +kernel) (by decide)) (
  xval (s_iceq (z := 24) (by decide +kernel) (by decide)) (
  xval (s_aload_n (f := 0) (by decide +kernel) rfl) (
  xval (s_getf (i := 10) (by decide +kernel) rfl tin_N (by decide) (tc tw_150)) (
  xval (s_iload_n (f := 3) (by decide +kernel) rfl) (
  xval (s_callV (i := 58) c_S_isClass (by decide +kernel) rfl (xtt_good tw_203) rfl (tc tw_348) (tc tw_201) (tc tw_202) (tc tw_2) ⟨by decide, by decide, by decide +kernel⟩ ⟨by decide, by decide, rfl, rfl, by decide, by decide⟩ x0_e) (
  xval (s_ifne (z := 13) (by decide +kernel) (by decide)) (
  xval (s_throw (i := 62) (ik := 64) (ic := 66) (j := 7) (bs := prog_15_method_2_code) (tx := "no such superclass") (by decide +kernel) (by decide +kernel) (by decide +kernel) (by decide +kernel) (by decide +kernel) (tc tw_349) (tc tw_350) (tc tw_12) (tc tw_358) (by decide +kernel) (by decide +kernel) (by decide +kernel) (by decide +kernel) (by decide +kernel) (tow_1 (tc tw_359)) ⟨by decide, by decide, by decide, by decide⟩ x0_e) (
  xval (s_aload_n (f := 0) (by decide +kernel) rfl) (
  xval (s_getf (i := 10) (by decide +kernel) rfl tin_N (by decide) (tc tw_150)) (
  xval (s_callV (i := 67) c_S_isMoving (by decide +kernel) rfl (xtt_good tw_368) rfl (tc tw_365) (tc tw_366) (tc tw_367) (tc tw_2) ⟨by decide, by decide, by decide +kernel⟩ ⟨by decide, by decide, rfl, rfl, by decide, by decide⟩ x0_e) (
  xval (s_ifne (z := 32) (by decide +kernel) (by decide)) (
  xval (s_aload_n (f := 0) (by decide +kernel) rfl) (
  xval (s_getf (i := 10) (by decide +kernel) rfl tin_N (by decide) (tc tw_150)) (
  xval (s_callV (i := 71) c_S_isFull (by decide +kernel) rfl (xtt_good tw_373) rfl (tc tw_370) (tc tw_371) (tc tw_372) (tc tw_2) ⟨by decide, by decide, by decide +kernel⟩ ⟨by decide, by decide, rfl, rfl, by decide, by decide⟩ x0_e) (
  xval (s_ifne (z := 22) (by decide +kernel) (by decide)) (
  xval (s_aload_n (f := 0) (by decide +kernel) rfl) (
  xval (s_getf (i := 10) (by decide +kernel) rfl tin_N (by decide) (tc tw_150)) (
  xval (s_lload_n (f := 1) (by decide +kernel) rfl) (
  xval (s_aload_n (f := 0) (by decide +kernel) rfl) (
  xval (s_getf (i := 10) (by decide +kernel) rfl tin_N (by decide) (tc tw_150)) (
  xval (s_getf (i := 74) (by decide +kernel) rfl tin_S (by decide) (tc tw_62)) (
  xval (s_callV (i := 78) c_S_classNamed (by decide +kernel) rfl (xtt_good tw_377) rfl (tc tw_374) (tc tw_375) (tc tw_376) (tc tw_2) ⟨by decide, by decide, by decide +kernel⟩ ⟨by decide, by decide, rfl, rfl, by decide, by decide⟩ x0_e) (
  xval (s_iconst (z := (-1)) (by decide +kernel) (by decide)) (
  xval (s_iceq (z := 13) (by decide +kernel) (by decide)) (
  xval (s_throw (i := 82) (ik := 84) (ic := 86) (j := 7) (bs := prog_14_method_2_code) (tx := "moving, 8 classes, or the name is taken") (by decide +kernel) (by decide +kernel) (by decide +kernel) (by decide +kernel) (by decide +kernel) (tc tw_378) (tc tw_379) (tc tw_13) (tc tw_387) (by decide +kernel) (by decide +kernel) (by decide +kernel) (by decide +kernel) (by decide +kernel) (tow_2 (tc tw_388)) ⟨by decide, by decide, by decide, by decide⟩ x0_e) (
  xval (s_aload_n (f := 0) (by decide +kernel) rfl) (
  xval (s_getf (i := 10) (by decide +kernel) rfl tin_N (by decide) (tc tw_150)) (
  xval (s_lload_n (f := 1) (by decide +kernel) rfl) (
  xval (s_iload_n (f := 3) (by decide +kernel) rfl) (
  xval (s_iload (by decide +kernel)) (
  xval (s_callV (i := 87) c_S_placeClass (by decide +kernel) rfl (xtt_good tw_397) rfl (tc tw_394) (tc tw_395) (tc tw_396) (tc tw_2) ⟨by decide, by decide, by decide +kernel⟩ ⟨by decide, by decide, rfl, rfl, by decide, by decide⟩ x0_e) (
  xval (s_aload_n (f := 0) (by decide +kernel) rfl) (
  xval (s_getf (i := 10) (by decide +kernel) rfl tin_N (by decide) (tc tw_150)) (
  xval (s_callV (i := 91) c_S_countPlacedClass (by decide +kernel) rfl (xtt_good tw_401) rfl (tc tw_398) (tc tw_399) (tc tw_400) (tc tw_2) ⟨by decide, by decide, by decide +kernel⟩ ⟨by decide, by decide, rfl, rfl, by decide, by decide⟩ x0_e) (
  xval (s_iret (by decide +kernel)) (
  xval_nil)))))))))))))))))))))))))))))))))))))))))
theorem c_N_declare : xMet xCl y_N_declare ws_N_declare rm_N_declare (xRun tb_N_declare 5) := xMet.of (by decide) rfl v_N_declare
def tb_N_requireClass : xT := [(0, o_aload 0 1), (1, o_getf 0 0), (4, o_iload 1 1), (5, o_callV (xRun tb_S_isClass 2) 1 1 1 0), (8, o_ifn (fun a => a = 0) 21), (11, o_throw 1 1), (21, o_vret)]
abbrev y_N_requireClass : MethodName := ⟨"NameMover", "requireClass", "(I)V"⟩
abbrev rm_N_requireClass : Room := { frames := 6, cells := 1, slots := 6, locals := 82 }
abbrev ws_N_requireClass : List Cond := Cond.code y_N_requireClass prog_1_method_19_code 2 (none) :: xtt
set_option maxRecDepth 100000 in
theorem v_N_requireClass : ∀ q ∈ tb_N_requireClass, xSd (0, 0) x0 xCl "NameMover" ws_N_requireClass prog_1_method_19_code 2 (none) rm_N_requireClass q :=
  xval (s_aload_n (f := 0) (by decide +kernel) rfl) (
  xval (s_getf (i := 10) (by decide +kernel) rfl tin_N (by decide) (tc tw_150)) (
  xval (s_iload_n (f := 1) (by decide +kernel) rfl) (
  xval (s_callV (i := 58) c_S_isClass (by decide +kernel) rfl (xtt_good tw_203) rfl (tc tw_348) (tc tw_201) (tc tw_202) (tc tw_2) ⟨by decide, by decide, by decide +kernel⟩ ⟨by decide, by decide, rfl, rfl, by decide, by decide⟩ x0_e) (
  xval (s_ifne (z := 13) (by decide +kernel) (by decide)) (
  xval (s_throw (i := 62) (ik := 217) (ic := 66) (j := 7) (bs := prog_15_method_2_code) (tx := "no such class") (by decide +kernel) (by decide +kernel) (by decide +kernel) (by decide +kernel) (by decide +kernel) (tc tw_349) (tc tw_350) (tc tw_12) (tc tw_413) (by decide +kernel) (by decide +kernel) (by decide +kernel) (by decide +kernel) (by decide +kernel) (tow_1 (tc tw_359)) ⟨by decide, by decide, by decide, by decide⟩ x0_e) (
  xval (s_vret (by decide +kernel)) (
  xval_nil)))))))
theorem c_N_requireClass : xMet xCl y_N_requireClass ws_N_requireClass rm_N_requireClass (xRun tb_N_requireClass 2) := xMet.of (by decide) rfl v_N_requireClass
