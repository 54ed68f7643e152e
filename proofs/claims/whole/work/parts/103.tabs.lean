def tb_P_libraryMember : xT := [(0, o_i 0 1), (1, o_istore 1 1), (2, o_iload 1 1), (3, o_aload 0 1), (4, o_callV (xRun tb_S_numbersEnd 1) 1 0 0 0), (7, o_ic (fun a b => b ≤ a) 59), (10, o_aload 0 1), (11, o_iload 1 1), (12, o_callV (xRun tb_S_isMemberNumber 2) 1 1 0 0), (15, o_if (fun a => a = 0) 53), (18, o_aload 0 1), (19, o_getf 1 3), (22, o_iload 1 1), (23, o_call (xRun tb_S_classOf 1) 1 0 0), (26, o_baload), (27, o_if (fun a => a = 0) 53), (30, o_aload 0 1), (31, o_getf 1 7), (34, o_iload 1 1), (35, o_laload), (36, o_aload 0 1), (37, o_getf 1 6), (40, o_iload 1 1), (41, o_laload), (42, o_lcmp), (43, o_if (fun a => a = 0) 53), (46, o_i 2 1), (47, o_iload 1 1), (48, o_i 0 1), (49, o_call (xRun tb_P_told 3) 3 0 0), (52, o_iret), (53, o_iinc 1 1), (56, o_goto 2), (59, o_i 0 1), (60, o_iret)]
abbrev y_P_libraryMember : MethodName := ⟨"NameMover$Problems", "libraryMember", "(LNameMover$Store;)I"⟩
abbrev rm_P_libraryMember : Room := { frames := 3, cells := 0, slots := 0, locals := 64 }
abbrev ws_P_libraryMember : List Cond := Cond.code y_P_libraryMember prog_7_method_5_code 2 (some .int) :: xtt
set_option maxRecDepth 100000 in
theorem v_P_libraryMember : ∀ q ∈ tb_P_libraryMember, xSd (0, 0) x0 xCl "NameMover$Problems" ws_P_libraryMember prog_7_method_5_code 2 (some .int) rm_P_libraryMember q :=
  xval (s_iconst (z := 0) (by decide +kernel) (by decide)) (
  xval (s_istore_n (f := 1) (by decide +kernel) rfl (by decide)) (
  xval (s_iload_n (f := 1) (by decide +kernel) rfl) (
  xval (s_aload_n (f := 0) (by decide +kernel) rfl) (
  xval (s_callV (i := 46) c_S_numbersEnd (by decide +kernel) rfl (xtt_good tw_188) rfl (tc tw_185) (tc tw_186) (tc tw_187) (tc tw_2) ⟨by decide, by decide, by decide +kernel⟩ ⟨by decide, by decide, rfl, rfl, by decide, by decide⟩ x0_e) (
  xval (s_icge (z := 52) (by decide +kernel) (by decide)) (
  xval (s_aload_n (f := 0) (by decide +kernel) rfl) (
  xval (s_iload_n (f := 1) (by decide +kernel) rfl) (
  xval (s_callV (i := 50) c_S_isMemberNumber (by decide +kernel) rfl (xtt_good tw_192) rfl (tc tw_189) (tc tw_190) (tc tw_191) (tc tw_2) ⟨by decide, by decide, by decide +kernel⟩ ⟨by decide, by decide, rfl, rfl, by decide, by decide⟩ x0_e) (
  xval (s_ifeq (z := 38) (by decide +kernel) (by decide)) (
  xval (s_aload_n (f := 0) (by decide +kernel) rfl) (
  xval (s_getf (i := 31) (by decide +kernel) rfl tin_S (by decide) (tc tw_44)) (
  xval (s_iload_n (f := 1) (by decide +kernel) rfl) (
  xval (s_callS (i := 54) c_S_classOf (by decide +kernel) rfl (xtt_good tw_195) (tc tw_204) (tc tw_194) (tc tw_2) ⟨by decide, by decide, by decide +kernel⟩ ⟨by decide, by decide, rfl, rfl, by decide, by decide⟩ x0_e) (
  xval (s_baload (by decide +kernel)) (
  xval (s_ifeq (z := 26) (by decide +kernel) (by decide)) (
  xval (s_aload_n (f := 0) (by decide +kernel) rfl) (
  xval (s_getf (i := 58) (by decide +kernel) rfl tin_S (by decide) (tc tw_53)) (
  xval (s_iload_n (f := 1) (by decide +kernel) rfl) (
  xval (s_laload (by decide +kernel)) (
  xval (s_aload_n (f := 0) (by decide +kernel) rfl) (
  xval (s_getf (i := 61) (by decide +kernel) rfl tin_S (by decide) (tc tw_50)) (
  xval (s_iload_n (f := 1) (by decide +kernel) rfl) (
  xval (s_laload (by decide +kernel)) (
  xval (s_lcmp (by decide +kernel)) (
  xval (s_ifeq (z := 10) (by decide +kernel) (by decide)) (
  xval (s_iconst (z := 2) (by decide +kernel) (by decide)) (
  xval (s_iload_n (f := 1) (by decide +kernel) rfl) (
  xval (s_iconst (z := 0) (by decide +kernel) (by decide)) (
  xval (s_callS (i := 42) c_P_told (by decide +kernel) rfl (xtt_good tw_181) (tc tw_179) (tc tw_180) (tc tw_15) ⟨by decide, by decide, by decide +kernel⟩ ⟨by decide, by decide, rfl, rfl, by decide, by decide⟩ x0_e) (
  xval (s_iret (by decide +kernel)) (
  xval (s_iinc (z := 1) (by decide +kernel) (by decide) (by decide)) (
  xval (s_goto (z := (-54)) (by decide +kernel) (by decide)) (
  xval (s_iconst (z := 0) (by decide +kernel) (by decide)) (
  xval (s_iret (by decide +kernel)) (
  xval_nil)))))))))))))))))))))))))))))))))))
theorem c_P_libraryMember : xMet xCl y_P_libraryMember ws_P_libraryMember rm_P_libraryMember (xRun tb_P_libraryMember 2) := xMet.of (by decide) rfl v_P_libraryMember
def tb_P_sameClassName : xT := [(0, o_i 0 1), (1, o_istore 1 1), (2, o_iload 1 1), (3, o_aload 0 1), (4, o_getf 1 10), (7, o_ic (fun a b => b ≤ a) 57), (10, o_iload 1 1), (11, o_i 1 1), (12, o_ii (fun a b => a + b)), (13, o_istore 2 1), (14, o_iload 2 1), (15, o_aload 0 1), (16, o_getf 1 10), (19, o_ic (fun a b => b ≤ a) 51), (22, o_aload 0 1), (23, o_getf 1 1), (26, o_iload 1 1), (27, o_laload), (28, o_aload 0 1), (29, o_getf 1 1), (32, o_iload 2 1), (33, o_laload), (34, o_lcmp), (35, o_ifn (fun a => a = 0) 45), (38, o_i 3 1), (39, o_iload 1 1), (40, o_iload 2 1), (41, o_call (xRun tb_P_told 3) 3 0 0), (44, o_iret), (45, o_iinc 2 1), (48, o_goto 14), (51, o_iinc 1 1), (54, o_goto 2), (57, o_i 0 1), (58, o_iret)]
abbrev y_P_sameClassName : MethodName := ⟨"NameMover$Problems", "sameClassName", "(LNameMover$Store;)I"⟩
abbrev rm_P_sameClassName : Room := { frames := 1, cells := 0, slots := 0, locals := 22 }
abbrev ws_P_sameClassName : List Cond := Cond.code y_P_sameClassName prog_7_method_6_code 3 (some .int) :: xtt
set_option maxRecDepth 100000 in
theorem v_P_sameClassName : ∀ q ∈ tb_P_sameClassName, xSd (0, 0) x0 xCl "NameMover$Problems" ws_P_sameClassName prog_7_method_6_code 3 (some .int) rm_P_sameClassName q :=
  xval (s_iconst (z := 0) (by decide +kernel) (by decide)) (
  xval (s_istore_n (f := 1) (by decide +kernel) rfl (by decide)) (
  xval (s_iload_n (f := 1) (by decide +kernel) rfl) (
  xval (s_aload_n (f := 0) (by decide +kernel) rfl) (
  xval (s_getf (i := 25) (by decide +kernel) rfl tin_S (by decide) (tc tw_63)) (
  xval (s_icge (z := 50) (by decide +kernel) (by decide)) (
  xval (s_iload_n (f := 1) (by decide +kernel) rfl) (
  xval (s_iconst (z := 1) (by decide +kernel) (by decide)) (
  xval (s_iadd (by decide +kernel)) (
  xval (s_istore_n (f := 2) (by decide +kernel) rfl (by decide)) (
  xval (s_iload_n (f := 2) (by decide +kernel) rfl) (
  xval (s_aload_n (f := 0) (by decide +kernel) rfl) (
  xval (s_getf (i := 25) (by decide +kernel) rfl tin_S (by decide) (tc tw_63)) (
  xval (s_icge (z := 32) (by decide +kernel) (by decide)) (
  xval (s_aload_n (f := 0) (by decide +kernel) rfl) (
  xval (s_getf (i := 35) (by decide +kernel) rfl tin_S (by decide) (tc tw_38)) (
  xval (s_iload_n (f := 1) (by decide +kernel) rfl) (
  xval (s_laload (by decide +kernel)) (
  xval (s_aload_n (f := 0) (by decide +kernel) rfl) (
  xval (s_getf (i := 35) (by decide +kernel) rfl tin_S (by decide) (tc tw_38)) (
  xval (s_iload_n (f := 2) (by decide +kernel) rfl) (
  xval (s_laload (by decide +kernel)) (
  xval (s_lcmp (by decide +kernel)) (
  xval (s_ifne (z := 10) (by decide +kernel) (by decide)) (
  xval (s_iconst (z := 3) (by decide +kernel) (by decide)) (
  xval (s_iload_n (f := 1) (by decide +kernel) rfl) (
  xval (s_iload_n (f := 2) (by decide +kernel) rfl) (
  xval (s_callS (i := 42) c_P_told (by decide +kernel) rfl (xtt_good tw_181) (tc tw_179) (tc tw_180) (tc tw_15) ⟨by decide, by decide, by decide +kernel⟩ ⟨by decide, by decide, rfl, rfl, by decide, by decide⟩ x0_e) (
  xval (s_iret (by decide +kernel)) (
  xval (s_iinc (z := 1) (by decide +kernel) (by decide) (by decide)) (
  xval (s_goto (z := (-34)) (by decide +kernel) (by decide)) (
  xval (s_iinc (z := 1) (by decide +kernel) (by decide) (by decide)) (
  xval (s_goto (z := (-52)) (by decide +kernel) (by decide)) (
  xval (s_iconst (z := 0) (by decide +kernel) (by decide)) (
  xval (s_iret (by decide +kernel)) (
  xval_nil)))))))))))))))))))))))))))))))))))
theorem c_P_sameClassName : xMet xCl y_P_sameClassName ws_P_sameClassName rm_P_sameClassName (xRun tb_P_sameClassName 3) := xMet.of (by decide) rfl v_P_sameClassName
def tb_P_inOnePackage : xT := [(0, o_lload 0 1), (1, o_call (xRun tb_T_packageOf 3) 1 0 0), (4, o_lload 2 1), (5, o_call (xRun tb_T_packageOf 3) 1 0 0), (8, o_lcmp), (9, o_ifn (fun a => a = 0) 16), (12, o_i 1 1), (13, o_goto 17), (16, o_i 0 1), (17, o_zret)]
abbrev y_P_inOnePackage : MethodName := ⟨"NameMover$Problems", "inOnePackage", "(JJ)Z"⟩
abbrev rm_P_inOnePackage : Room := { frames := 3, cells := 0, slots := 0, locals := 66 }
abbrev ws_P_inOnePackage : List Cond := Cond.code y_P_inOnePackage prog_7_method_8_code 4 (some .boolean) :: xtt
set_option maxRecDepth 100000 in
theorem v_P_inOnePackage : ∀ q ∈ tb_P_inOnePackage, xSd (0, 0) x0 xCl "NameMover$Problems" ws_P_inOnePackage prog_7_method_8_code 4 (some .boolean) rm_P_inOnePackage q :=
  xval (s_lload_n (f := 0) (by decide +kernel) rfl) (
  xval (s_callS (i := 68) c_T_packageOf (by decide +kernel) rfl (xtt_good tw_216) (tc tw_214) (tc tw_215) (tc tw_7) ⟨by decide, by decide, by decide +kernel⟩ ⟨by decide, by decide, rfl, rfl, by decide, by decide⟩ x0_e) (
  xval (s_lload_n (f := 2) (by decide +kernel) rfl) (
  xval (s_callS (i := 68) c_T_packageOf (by decide +kernel) rfl (xtt_good tw_216) (tc tw_214) (tc tw_215) (tc tw_7) ⟨by decide, by decide, by decide +kernel⟩ ⟨by decide, by decide, rfl, rfl, by decide, by decide⟩ x0_e) (
  xval (s_lcmp (by decide +kernel)) (
  xval (s_ifne (z := 7) (by decide +kernel) (by decide)) (
  xval (s_iconst (z := 1) (by decide +kernel) (by decide)) (
  xval (s_goto (z := 4) (by decide +kernel) (by decide)) (
  xval (s_iconst (z := 0) (by decide +kernel) (by decide)) (
  xval (s_zret (by decide +kernel)) (
  xval_nil))))))))))
theorem c_P_inOnePackage : xMet xCl y_P_inOnePackage ws_P_inOnePackage rm_P_inOnePackage (xRun tb_P_inOnePackage 4) := xMet.of (by decide) rfl v_P_inOnePackage
def tb_P_otherPackages : xT := [(0, o_i 0 1), (1, o_istore 1 1), (2, o_iload 1 1), (3, o_aload 0 1), (4, o_getf 1 10), (7, o_ic (fun a b => b ≤ a) 74), (10, o_iload 1 1), (11, o_i 1 1), (12, o_ii (fun a b => a + b)), (13, o_istore 2 1), (14, o_iload 2 1), (15, o_aload 0 1), (16, o_getf 1 10), (19, o_ic (fun a b => b ≤ a) 68), (22, o_aload 0 1), (23, o_getf 1 0), (26, o_iload 1 1), (27, o_laload), (28, o_aload 0 1), (29, o_getf 1 0), (32, o_iload 2 1), (33, o_laload), (34, o_call (xRun tb_P_inOnePackage 4) 2 0 0), (37, o_aload 0 1), (38, o_getf 1 1), (41, o_iload 1 1), (42, o_laload), (43, o_aload 0 1), (44, o_getf 1 1), (47, o_iload 2 1), (48, o_laload), (49, o_call (xRun tb_P_inOnePackage 4) 2 0 0), (52, o_ic (fun a b => a = b) 62), (55, o_i 4 1), (56, o_iload 1 1), (57, o_iload 2 1), (58, o_call (xRun tb_P_told 3) 3 0 0), (61, o_iret), (62, o_iinc 2 1), (65, o_goto 14), (68, o_iinc 1 1), (71, o_goto 2), (74, o_i 0 1), (75, o_iret)]
abbrev y_P_otherPackages : MethodName := ⟨"NameMover$Problems", "otherPackages", "(LNameMover$Store;)I"⟩
abbrev rm_P_otherPackages : Room := { frames := 4, cells := 0, slots := 0, locals := 89 }
abbrev ws_P_otherPackages : List Cond := Cond.code y_P_otherPackages prog_7_method_7_code 3 (some .int) :: xtt
set_option maxRecDepth 100000 in
theorem v_P_otherPackages : ∀ q ∈ tb_P_otherPackages, xSd (0, 0) x0 xCl "NameMover$Problems" ws_P_otherPackages prog_7_method_7_code 3 (some .int) rm_P_otherPackages q :=
  xval (s_iconst (z := 0) (by decide +kernel) (by decide)) (
  xval (s_istore_n (f := 1) (by decide +kernel) rfl (by decide)) (
  xval (s_iload_n (f := 1) (by decide +kernel) rfl) (
  xval (s_aload_n (f := 0) (by decide +kernel) rfl) (
  xval (s_getf (i := 25) (by decide +kernel) rfl tin_S (by decide) (tc tw_63)) (
  xval (s_icge (z := 67) (by decide +kernel) (by decide)) (
  xval (s_iload_n (f := 1) (by decide +kernel) rfl) (
  xval (s_iconst (z := 1) (by decide +kernel) (by decide)) (
  xval (s_iadd (by decide +kernel)) (
  xval (s_istore_n (f := 2) (by decide +kernel) rfl (by decide)) (
  xval (s_iload_n (f := 2) (by decide +kernel) rfl) (
  xval (s_aload_n (f := 0) (by decide +kernel) rfl) (
  xval (s_getf (i := 25) (by decide +kernel) rfl tin_S (by decide) (tc tw_63)) (
  xval (s_icge (z := 49) (by decide +kernel) (by decide)) (
  xval (s_aload_n (f := 0) (by decide +kernel) rfl) (
  xval (s_getf (i := 39) (by decide +kernel) rfl tin_S (by decide) (tc tw_35)) (
  xval (s_iload_n (f := 1) (by decide +kernel) rfl) (
  xval (s_laload (by decide +kernel)) (
  xval (s_aload_n (f := 0) (by decide +kernel) rfl) (
  xval (s_getf (i := 39) (by decide +kernel) rfl tin_S (by decide) (tc tw_35)) (
  xval (s_iload_n (f := 2) (by decide +kernel) rfl) (
  xval (s_laload (by decide +kernel)) (
  xval (s_callS (i := 64) c_P_inOnePackage (by decide +kernel) rfl (xtt_good tw_213) (tc tw_211) (tc tw_212) (tc tw_15) ⟨by decide, by decide, by decide +kernel⟩ ⟨by decide, by decide, rfl, rfl, by decide, by decide⟩ x0_e) (
  xval (s_aload_n (f := 0) (by decide +kernel) rfl) (
  xval (s_getf (i := 35) (by decide +kernel) rfl tin_S (by decide) (tc tw_38)) (
  xval (s_iload_n (f := 1) (by decide +kernel) rfl) (
  xval (s_laload (by decide +kernel)) (
  xval (s_aload_n (f := 0) (by decide +kernel) rfl) (
  xval (s_getf (i := 35) (by decide +kernel) rfl tin_S (by decide) (tc tw_38)) (
  xval (s_iload_n (f := 2) (by decide +kernel) rfl) (
  xval (s_laload (by decide +kernel)) (
  xval (s_callS (i := 64) c_P_inOnePackage (by decide +kernel) rfl (xtt_good tw_213) (tc tw_211) (tc tw_212) (tc tw_15) ⟨by decide, by decide, by decide +kernel⟩ ⟨by decide, by decide, rfl, rfl, by decide, by decide⟩ x0_e) (
  xval (s_iceq (z := 10) (by decide +kernel) (by decide)) (
  xval (s_iconst (z := 4) (by decide +kernel) (by decide)) (
  xval (s_iload_n (f := 1) (by decide +kernel) rfl) (
  xval (s_iload_n (f := 2) (by decide +kernel) rfl) (
  xval (s_callS (i := 42) c_P_told (by decide +kernel) rfl (xtt_good tw_181) (tc tw_179) (tc tw_180) (tc tw_15) ⟨by decide, by decide, by decide +kernel⟩ ⟨by decide, by decide, rfl, rfl, by decide, by decide⟩ x0_e) (
  xval (s_iret (by decide +kernel)) (
  xval (s_iinc (z := 1) (by decide +kernel) (by decide) (by decide)) (
  xval (s_goto (z := (-51)) (by decide +kernel) (by decide)) (
  xval (s_iinc (z := 1) (by decide +kernel) (by decide) (by decide)) (
  xval (s_goto (z := (-69)) (by decide +kernel) (by decide)) (
  xval (s_iconst (z := 0) (by decide +kernel) (by decide)) (
  xval (s_iret (by decide +kernel)) (
  xval_nil))))))))))))))))))))))))))))))))))))))))))))
theorem c_P_otherPackages : xMet xCl y_P_otherPackages ws_P_otherPackages rm_P_otherPackages (xRun tb_P_otherPackages 3) := xMet.of (by decide) rfl v_P_otherPackages
def tb_P_becomeOne : xT := [(0, o_aload 0 1), (1, o_iload 1 1), (2, o_call (xRun tb_S_classOf 1) 1 0 0), (5, o_iload 2 1), (6, o_call (xRun tb_S_classOf 1) 1 0 0), (9, o_callV (xRun tb_S_isSameOrAncestor 3) 1 2 0 0), (12, o_if (fun a => a = 0) 67), (15, o_aload 0 1), (16, o_getf 1 8), (19, o_iload 1 1), (20, o_laload), (21, o_aload 0 1), (22, o_getf 1 8), (25, o_iload 2 1), (26, o_laload), (27, o_lcmp), (28, o_ifn (fun a => a = 0) 67), (31, o_aload 0 1), (32, o_getf 1 7), (35, o_iload 1 1), (36, o_laload), (37, o_aload 0 1), (38, o_getf 1 7), (41, o_iload 2 1), (42, o_laload), (43, o_lcmp), (44, o_ifn (fun a => a = 0) 67), (47, o_aload 0 1), (48, o_getf 1 6), (51, o_iload 1 1), (52, o_laload), (53, o_aload 0 1), (54, o_getf 1 6), (57, o_iload 2 1), (58, o_laload), (59, o_lcmp), (60, o_if (fun a => a = 0) 67), (63, o_i 1 1), (64, o_goto 68), (67, o_i 0 1), (68, o_zret)]
abbrev y_P_becomeOne : MethodName := ⟨"NameMover$Problems", "becomeOne", "(LNameMover$Store;II)Z"⟩
abbrev rm_P_becomeOne : Room := { frames := 1, cells := 0, slots := 0, locals := 22 }
abbrev ws_P_becomeOne : List Cond := Cond.code y_P_becomeOne prog_7_method_11_code 3 (some .boolean) :: xtt
set_option maxRecDepth 100000 in
theorem v_P_becomeOne : ∀ q ∈ tb_P_becomeOne, xSd (0, 0) x0 xCl "NameMover$Problems" ws_P_becomeOne prog_7_method_11_code 3 (some .boolean) rm_P_becomeOne q :=
  xval (s_aload_n (f := 0) (by decide +kernel) rfl) (
  xval (s_iload_n (f := 1) (by decide +kernel) rfl) (
  xval (s_callS (i := 54) c_S_classOf (by decide +kernel) rfl (xtt_good tw_195) (tc tw_204) (tc tw_194) (tc tw_2) ⟨by decide, by decide, by decide +kernel⟩ ⟨by decide, by decide, rfl, rfl, by decide, by decide⟩ x0_e) (
  xval (s_iload_n (f := 2) (by decide +kernel) rfl) (
  xval (s_callS (i := 54) c_S_classOf (by decide +kernel) rfl (xtt_good tw_195) (tc tw_204) (tc tw_194) (tc tw_2) ⟨by decide, by decide, by decide +kernel⟩ ⟨by decide, by decide, rfl, rfl, by decide, by decide⟩ x0_e) (
  xval (s_callV (i := 82) c_S_isSameOrAncestor (by decide +kernel) rfl (xtt_good tw_235) rfl (tc tw_232) (tc tw_233) (tc tw_234) (tc tw_2) ⟨by decide, by decide, by decide +kernel⟩ ⟨by decide, by decide, rfl, rfl, by decide, by decide⟩ x0_e) (
  xval (s_ifeq (z := 55) (by decide +kernel) (by decide)) (
  xval (s_aload_n (f := 0) (by decide +kernel) rfl) (
  xval (s_getf (i := 86) (by decide +kernel) rfl tin_S (by decide) (tc tw_57)) (
  xval (s_iload_n (f := 1) (by decide +kernel) rfl) (
  xval (s_laload (by decide +kernel)) (
  xval (s_aload_n (f := 0) (by decide +kernel) rfl) (
  xval (s_getf (i := 86) (by decide +kernel) rfl tin_S (by decide) (tc tw_57)) (
  xval (s_iload_n (f := 2) (by decide +kernel) rfl) (
  xval (s_laload (by decide +kernel)) (
  xval (s_lcmp (by decide +kernel)) (
  xval (s_ifne (z := 39) (by decide +kernel) (by decide)) (
  xval (s_aload_n (f := 0) (by decide +kernel) rfl) (
  xval (s_getf (i := 58) (by decide +kernel) rfl tin_S (by decide) (tc tw_53)) (
  xval (s_iload_n (f := 1) (by decide +kernel) rfl) (
  xval (s_laload (by decide +kernel)) (
  xval (s_aload_n (f := 0) (by decide +kernel) rfl) (
  xval (s_getf (i := 58) (by decide +kernel) rfl tin_S (by decide) (tc tw_53)) (
  xval (s_iload_n (f := 2) (by decide +kernel) rfl) (
  xval (s_laload (by decide +kernel)) (
  xval (s_lcmp (by decide +kernel)) (
  xval (s_ifne (z := 23) (by decide +kernel) (by decide)) (
  xval (s_aload_n (f := 0) (by decide +kernel) rfl) (
  xval (s_getf (i := 61) (by decide +kernel) rfl tin_S (by decide) (tc tw_50)) (
  xval (s_iload_n (f := 1) (by decide +kernel) rfl) (
  xval (s_laload (by decide +kernel)) (
  xval (s_aload_n (f := 0) (by decide +kernel) rfl) (
  xval (s_getf (i := 61) (by decide +kernel) rfl tin_S (by decide) (tc tw_50)) (
  xval (s_iload_n (f := 2) (by decide +kernel) rfl) (
  xval (s_laload (by decide +kernel)) (
  xval (s_lcmp (by decide +kernel)) (
  xval (s_ifeq (z := 7) (by decide +kernel) (by decide)) (
  xval (s_iconst (z := 1) (by decide +kernel) (by decide)) (
  xval (s_goto (z := 4) (by decide +kernel) (by decide)) (
  xval (s_iconst (z := 0) (by decide +kernel) (by decide)) (
  xval (s_zret (by decide +kernel)) (
  xval_nil)))))))))))))))))))))))))))))))))))))))))
theorem c_P_becomeOne : xMet xCl y_P_becomeOne ws_P_becomeOne rm_P_becomeOne (xRun tb_P_becomeOne 3) := xMet.of (by decide) rfl v_P_becomeOne
def tb_P_firstThatBecomes : xT := [(0, o_iload 1 1), (1, o_i 1 1), (2, o_ii (fun a b => a + b)), (3, o_istore 2 1), (4, o_iload 2 1), (5, o_aload 0 1), (6, o_callV (xRun tb_S_numbersEnd 1) 1 0 0 0), (9, o_ic (fun a b => b ≤ a) 37), (12, o_aload 0 1), (13, o_iload 2 1), (14, o_callV (xRun tb_S_isMemberNumber 2) 1 1 0 0), (17, o_if (fun a => a = 0) 31), (20, o_aload 0 1), (21, o_iload 1 1), (22, o_iload 2 1), (23, o_call (xRun tb_P_becomeOne 3) 3 0 0), (26, o_if (fun a => a = 0) 31), (29, o_iload 2 1), (30, o_iret), (31, o_iinc 2 1), (34, o_goto 4), (37, o_i (-1) 1), (38, o_iret)]
abbrev y_P_firstThatBecomes : MethodName := ⟨"NameMover$Problems", "firstThatBecomes", "(LNameMover$Store;I)I"⟩
abbrev rm_P_firstThatBecomes : Room := { frames := 3, cells := 0, slots := 0, locals := 64 }
abbrev ws_P_firstThatBecomes : List Cond := Cond.code y_P_firstThatBecomes prog_7_method_10_code 3 (some .int) :: xtt
set_option maxRecDepth 100000 in
theorem v_P_firstThatBecomes : ∀ q ∈ tb_P_firstThatBecomes, xSd (0, 0) x0 xCl "NameMover$Problems" ws_P_firstThatBecomes prog_7_method_10_code 3 (some .int) rm_P_firstThatBecomes q :=
  xval (s_iload_n (f := 1) (by decide +kernel) rfl) (
  xval (s_iconst (z := 1) (by decide +kernel) (by decide)) (
  xval (s_iadd (by decide +kernel)) (
  xval (s_istore_n (f := 2) (by decide +kernel) rfl (by decide)) (
  xval (s_iload_n (f := 2) (by decide +kernel) rfl) (
  xval (s_aload_n (f := 0) (by decide +kernel) rfl) (
  xval (s_callV (i := 46) c_S_numbersEnd (by decide +kernel) rfl (xtt_good tw_188) rfl (tc tw_185) (tc tw_186) (tc tw_187) (tc tw_2) ⟨by decide, by decide, by decide +kernel⟩ ⟨by decide, by decide, rfl, rfl, by decide, by decide⟩ x0_e) (
  xval (s_icge (z := 28) (by decide +kernel) (by decide)) (
  xval (s_aload_n (f := 0) (by decide +kernel) rfl) (
  xval (s_iload_n (f := 2) (by decide +kernel) rfl) (
  xval (s_callV (i := 50) c_S_isMemberNumber (by decide +kernel) rfl (xtt_good tw_192) rfl (tc tw_189) (tc tw_190) (tc tw_191) (tc tw_2) ⟨by decide, by decide, by decide +kernel⟩ ⟨by decide, by decide, rfl, rfl, by decide, by decide⟩ x0_e) (
  xval (s_ifeq (z := 14) (by decide +kernel) (by decide)) (
  xval (s_aload_n (f := 0) (by decide +kernel) rfl) (
  xval (s_iload_n (f := 1) (by decide +kernel) rfl) (
  xval (s_iload_n (f := 2) (by decide +kernel) rfl) (
  xval (s_callS (i := 78) c_P_becomeOne (by decide +kernel) rfl (xtt_good tw_231) (tc tw_229) (tc tw_230) (tc tw_15) ⟨by decide, by decide, by decide +kernel⟩ ⟨by decide, by decide, rfl, rfl, by decide, by decide⟩ x0_e) (
  xval (s_ifeq (z := 5) (by decide +kernel) (by decide)) (
  xval (s_iload_n (f := 2) (by decide +kernel) rfl) (
  xval (s_iret (by decide +kernel)) (
  xval (s_iinc (z := 1) (by decide +kernel) (by decide) (by decide)) (
  xval (s_goto (z := (-30)) (by decide +kernel) (by decide)) (
  xval (s_iconst (z := (-1)) (by decide +kernel) (by decide)) (
  xval (s_iret (by decide +kernel)) (
  xval_nil)))))))))))))))))))))))
theorem c_P_firstThatBecomes : xMet xCl y_P_firstThatBecomes ws_P_firstThatBecomes rm_P_firstThatBecomes (xRun tb_P_firstThatBecomes 3) := xMet.of (by decide) rfl v_P_firstThatBecomes
def tb_P_sameMemberName : xT := [(0, o_i 0 1), (1, o_istore 1 1), (2, o_iload 1 1), (3, o_aload 0 1), (4, o_callV (xRun tb_S_numbersEnd 1) 1 0 0 0), (7, o_ic (fun a b => b ≤ a) 46), (10, o_aload 0 1), (11, o_iload 1 1), (12, o_callV (xRun tb_S_isMemberNumber 2) 1 1 0 0), (15, o_if (fun a => a = 0) 26), (18, o_aload 0 1), (19, o_iload 1 1), (20, o_call (xRun tb_P_firstThatBecomes 3) 2 0 0), (23, o_goto 27), (26, o_i (-1) 1), (27, o_istore 2 1), (28, o_iload 2 1), (29, o_i (-1) 1), (30, o_ic (fun a b => a = b) 40), (33, o_i 5 1), (34, o_iload 1 1), (35, o_iload 2 1), (36, o_call (xRun tb_P_told 3) 3 0 0), (39, o_iret), (40, o_iinc 1 1), (43, o_goto 2), (46, o_i 0 1), (47, o_iret)]
abbrev y_P_sameMemberName : MethodName := ⟨"NameMover$Problems", "sameMemberName", "(LNameMover$Store;)I"⟩
abbrev rm_P_sameMemberName : Room := { frames := 4, cells := 0, slots := 0, locals := 86 }
abbrev ws_P_sameMemberName : List Cond := Cond.code y_P_sameMemberName prog_7_method_9_code 3 (some .int) :: xtt
set_option maxRecDepth 100000 in
theorem v_P_sameMemberName : ∀ q ∈ tb_P_sameMemberName, xSd (0, 0) x0 xCl "NameMover$Problems" ws_P_sameMemberName prog_7_method_9_code 3 (some .int) rm_P_sameMemberName q :=
  xval (s_iconst (z := 0) (by decide +kernel) (by decide)) (
  xval (s_istore_n (f := 1) (by decide +kernel) rfl (by decide)) (
  xval (s_iload_n (f := 1) (by decide +kernel) rfl) (
  xval (s_aload_n (f := 0) (by decide +kernel) rfl) (
  xval (s_callV (i := 46) c_S_numbersEnd (by decide +kernel) rfl (xtt_good tw_188) rfl (tc tw_185) (tc tw_186) (tc tw_187) (tc tw_2) ⟨by decide, by decide, by decide +kernel⟩ ⟨by decide, by decide, rfl, rfl, by decide, by decide⟩ x0_e) (
  xval (s_icge (z := 39) (by decide +kernel) (by decide)) (
  xval (s_aload_n (f := 0) (by decide +kernel) rfl) (
  xval (s_iload_n (f := 1) (by decide +kernel) rfl) (
  xval (s_callV (i := 50) c_S_isMemberNumber (by decide +kernel) rfl (xtt_good tw_192) rfl (tc tw_189) (tc tw_190) (tc tw_191) (tc tw_2) ⟨by decide, by decide, by decide +kernel⟩ ⟨by decide, by decide, rfl, rfl, by decide, by decide⟩ x0_e) (
  xval (s_ifeq (z := 11) (by decide +kernel) (by decide)) (
  xval (s_aload_n (f := 0) (by decide +kernel) rfl) (
  xval (s_iload_n (f := 1) (by decide +kernel) rfl) (
  xval (s_callS (i := 74) c_P_firstThatBecomes (by decide +kernel) rfl (xtt_good tw_228) (tc tw_226) (tc tw_227) (tc tw_15) ⟨by decide, by decide, by decide +kernel⟩ ⟨by decide, by decide, rfl, rfl, by decide, by decide⟩ x0_e) (
  xval (s_goto (z := 4) (by decide +kernel) (by decide)) (
  xval (s_iconst (z := (-1)) (by decide +kernel) (by decide)) (
  xval (s_istore_n (f := 2) (by decide +kernel) rfl (by decide)) (
  xval (s_iload_n (f := 2) (by decide +kernel) rfl) (
  xval (s_iconst (z := (-1)) (by decide +kernel) (by decide)) (
  xval (s_iceq (z := 10) (by decide +kernel) (by decide)) (
  xval (s_iconst (z := 5) (by decide +kernel) (by decide)) (
  xval (s_iload_n (f := 1) (by decide +kernel) rfl) (
  xval (s_iload_n (f := 2) (by decide +kernel) rfl) (
  xval (s_callS (i := 42) c_P_told (by decide +kernel) rfl (xtt_good tw_181) (tc tw_179) (tc tw_180) (tc tw_15) ⟨by decide, by decide, by decide +kernel⟩ ⟨by decide, by decide, rfl, rfl, by decide, by decide⟩ x0_e) (
  xval (s_iret (by decide +kernel)) (
  xval (s_iinc (z := 1) (by decide +kernel) (by decide) (by decide)) (
  xval (s_goto (z := (-41)) (by decide +kernel) (by decide)) (
  xval (s_iconst (z := 0) (by decide +kernel) (by decide)) (
  xval (s_iret (by decide +kernel)) (
  xval_nil))))))))))))))))))))))))))))
theorem c_P_sameMemberName : xMet xCl y_P_sameMemberName ws_P_sameMemberName rm_P_sameMemberName (xRun tb_P_sameMemberName 3) := xMet.of (by decide) rfl v_P_sameMemberName
def tb_P_least : xT := [(0, o_aload 0 1), (1, o_call (xRun tb_P_libraryClass 2) 1 0 0), (4, o_istore 1 1), (5, o_iload 1 1), (6, o_ifn (fun a => a = 0) 14), (9, o_aload 0 1), (10, o_call (xRun tb_P_libraryMember 2) 1 0 0), (13, o_istore 1 1), (14, o_iload 1 1), (15, o_ifn (fun a => a = 0) 23), (18, o_aload 0 1), (19, o_call (xRun tb_P_sameClassName 3) 1 0 0), (22, o_istore 1 1), (23, o_iload 1 1), (24, o_ifn (fun a => a = 0) 32), (27, o_aload 0 1), (28, o_call (xRun tb_P_otherPackages 3) 1 0 0), (31, o_istore 1 1), (32, o_iload 1 1), (33, o_ifn (fun a => a = 0) 41), (36, o_aload 0 1), (37, o_call (xRun tb_P_sameMemberName 3) 1 0 0), (40, o_istore 1 1), (41, o_iload 1 1), (42, o_iret)]
abbrev y_P_least : MethodName := ⟨"NameMover$Problems", "least", "(LNameMover$Store;)I"⟩
abbrev rm_P_least : Room := { frames := 5, cells := 0, slots := 0, locals := 111 }
abbrev ws_P_least : List Cond := Cond.code y_P_least prog_7_method_2_code 2 (some .int) :: xtt
set_option maxRecDepth 100000 in
theorem v_P_least : ∀ q ∈ tb_P_least, xSd (0, 0) x0 xCl "NameMover$Problems" ws_P_least prog_7_method_2_code 2 (some .int) rm_P_least q :=
  xval (s_aload_n (f := 0) (by decide +kernel) rfl) (
  xval (s_callS (i := 7) c_P_libraryClass (by decide +kernel) rfl (xtt_good tw_178) (tc tw_176) (tc tw_177) (tc tw_15) ⟨by decide, by decide, by decide +kernel⟩ ⟨by decide, by decide, rfl, rfl, by decide, by decide⟩ x0_e) (
  xval (s_istore_n (f := 1) (by decide +kernel) rfl (by decide)) (
  xval (s_iload_n (f := 1) (by decide +kernel) rfl) (
  xval (s_ifne (z := 8) (by decide +kernel) (by decide)) (
  xval (s_aload_n (f := 0) (by decide +kernel) rfl) (
  xval (s_callS (i := 13) c_P_libraryMember (by decide +kernel) rfl (xtt_good tw_184) (tc tw_182) (tc tw_183) (tc tw_15) ⟨by decide, by decide, by decide +kernel⟩ ⟨by decide, by decide, rfl, rfl, by decide, by decide⟩ x0_e) (
  xval (s_istore_n (f := 1) (by decide +kernel) rfl (by decide)) (
  xval (s_iload_n (f := 1) (by decide +kernel) rfl) (
  xval (s_ifne (z := 8) (by decide +kernel) (by decide)) (
  xval (s_aload_n (f := 0) (by decide +kernel) rfl) (
  xval (s_callS (i := 16) c_P_sameClassName (by decide +kernel) rfl (xtt_good tw_207) (tc tw_205) (tc tw_206) (tc tw_15) ⟨by decide, by decide, by decide +kernel⟩ ⟨by decide, by decide, rfl, rfl, by decide, by decide⟩ x0_e) (
  xval (s_istore_n (f := 1) (by decide +kernel) rfl (by decide)) (
  xval (s_iload_n (f := 1) (by decide +kernel) rfl) (
  xval (s_ifne (z := 8) (by decide +kernel) (by decide)) (
  xval (s_aload_n (f := 0) (by decide +kernel) rfl) (
  xval (s_callS (i := 19) c_P_otherPackages (by decide +kernel) rfl (xtt_good tw_210) (tc tw_208) (tc tw_209) (tc tw_15) ⟨by decide, by decide, by decide +kernel⟩ ⟨by decide, by decide, rfl, rfl, by decide, by decide⟩ x0_e) (
  xval (s_istore_n (f := 1) (by decide +kernel) rfl (by decide)) (
  xval (s_iload_n (f := 1) (by decide +kernel) rfl) (
  xval (s_ifne (z := 8) (by decide +kernel) (by decide)) (
  xval (s_aload_n (f := 0) (by decide +kernel) rfl) (
  xval (s_callS (i := 22) c_P_sameMemberName (by decide +kernel) rfl (xtt_good tw_225) (tc tw_223) (tc tw_224) (tc tw_15) ⟨by decide, by decide, by decide +kernel⟩ ⟨by decide, by decide, rfl, rfl, by decide, by decide⟩ x0_e) (
  xval (s_istore_n (f := 1) (by decide +kernel) rfl (by decide)) (
  xval (s_iload_n (f := 1) (by decide +kernel) rfl) (
  xval (s_iret (by decide +kernel)) (
  xval_nil)))))))))))))))))))))))))
theorem c_P_least : xMet xCl y_P_least ws_P_least rm_P_least (xRun tb_P_least 2) := xMet.of (by decide) rfl v_P_least
def tb_N_problem : xT := [(0, o_aload 0 1), (1, o_getf 0 0), (4, o_call (xRun tb_P_least 2) 1 0 0), (7, o_iret)]
abbrev y_N_problem : MethodName := ⟨"NameMover", "problem", "()I"⟩
abbrev rm_N_problem : Room := { frames := 6, cells := 0, slots := 0, locals := 132 }
abbrev ws_N_problem : List Cond := Cond.code y_N_problem prog_1_method_7_code 1 (some .int) :: xtt
set_option maxRecDepth 100000 in
theorem v_N_problem : ∀ q ∈ tb_N_problem, xSd (0, 0) x0 xCl "NameMover" ws_N_problem prog_1_method_7_code 1 (some .int) rm_N_problem q :=
  xval (s_aload_n (f := 0) (by decide +kernel) rfl) (
  xval (s_getf (i := 10) (by decide +kernel) rfl tin_N (by decide) (tc tw_150)) (
  xval (s_callS (i := 151) c_P_least (by decide +kernel) rfl (xtt_good tw_175) (tc tw_173) (tc tw_174) (tc tw_15) ⟨by decide, by decide, by decide +kernel⟩ ⟨by decide, by decide, rfl, rfl, by decide, by decide⟩ x0_e) (
  xval (s_iret (by decide +kernel)) (
  xval_nil))))
theorem c_N_problem : xMet xCl y_N_problem ws_N_problem rm_N_problem (xRun tb_N_problem 1) := xMet.of (by decide) rfl v_N_problem
def tb_S_takeNewNames : xT := [(0, o_aload 0 1), (1, o_getf 1 1), (4, o_i 0 1), (5, o_aload 0 1), (6, o_getf 1 0), (9, o_i 0 1), (10, o_i 8 2), (12, o_copyl), (15, o_aload 0 1), (16, o_getf 1 7), (19, o_i 0 1), (20, o_aload 0 1), (21, o_getf 1 6), (24, o_i 0 1), (25, o_i 64 2), (27, o_copyl), (30, o_vret)]
abbrev y_S_takeNewNames : MethodName := ⟨"NameMover$Store", "takeNewNames", "()V"⟩
abbrev rm_S_takeNewNames : Room := { frames := 1, cells := 0, slots := 0, locals := 40 }
abbrev ws_S_takeNewNames : List Cond := Cond.code y_S_takeNewNames prog_8_method_19_code 1 (none) :: xtt
set_option maxRecDepth 100000 in
theorem v_S_takeNewNames : ∀ q ∈ tb_S_takeNewNames, xSd (0, 0) x0 xCl "NameMover$Store" ws_S_takeNewNames prog_8_method_19_code 1 (none) rm_S_takeNewNames q :=
  xval (s_aload_n (f := 0) (by decide +kernel) rfl) (
  xval (s_getf (i := 13) (by decide +kernel) rfl tin_S (by decide) (tc tw_37)) (
  xval (s_iconst (z := 0) (by decide +kernel) (by decide)) (
  xval (s_aload_n (f := 0) (by decide +kernel) rfl) (
  xval (s_getf (i := 9) (by decide +kernel) rfl tin_S (by decide) (tc tw_33)) (
  xval (s_iconst (z := 0) (by decide +kernel) (by decide)) (
  xval (s_bipush (z := 8) (by decide +kernel) (by decide)) (
  xval (s_copyl (i := 79) (by decide +kernel) (tc tw_250) (tc tw_252) (tc tw_251) (tc tw_16) ⟨by decide, by decide +kernel⟩) (
  xval (s_aload_n (f := 0) (by decide +kernel) rfl) (
  xval (s_getf (i := 33) (by decide +kernel) rfl tin_S (by decide) (tc tw_52)) (
  xval (s_iconst (z := 0) (by decide +kernel) (by decide)) (
  xval (s_aload_n (f := 0) (by decide +kernel) rfl) (
  xval (s_getf (i := 30) (by decide +kernel) rfl tin_S (by decide) (tc tw_48)) (
  xval (s_iconst (z := 0) (by decide +kernel) (by decide)) (
  xval (s_bipush (z := 64) (by decide +kernel) (by decide)) (
  xval (s_copyl (i := 79) (by decide +kernel) (tc tw_250) (tc tw_252) (tc tw_251) (tc tw_16) ⟨by decide, by decide +kernel⟩) (
  xval (s_vret (by decide +kernel)) (
  xval_nil)))))))))))))))))
theorem c_S_takeNewNames : xMet xCl y_S_takeNewNames ws_S_takeNewNames rm_S_takeNewNames (xRun tb_S_takeNewNames 1) := xMet.of (by decide) rfl v_S_takeNewNames
def tb_N_apply : xT := [(0, o_aload 0 1), (1, o_getf 0 0), (4, o_call (xRun tb_P_least 2) 1 1 0), (7, o_if (fun a => a = 0) 20), (10, o_throw 2 1), (20, o_aload 0 1), (21, o_getf 0 0), (24, o_callV (xRun tb_S_changedNames 3) 1 0 1 0), (27, o_istore 1 1), (28, o_aload 0 1), (29, o_getf 0 0), (32, o_callV (xRun tb_S_takeNewNames 1) 1 0 1 0), (35, o_iload 1 1), (36, o_iret)]
abbrev y_N_apply : MethodName := ⟨"NameMover", "apply", "()I"⟩
abbrev rm_N_apply : Room := { frames := 6, cells := 1, slots := 6, locals := 132 }
abbrev ws_N_apply : List Cond := Cond.code y_N_apply prog_1_method_8_code 2 (some .int) :: xtt
set_option maxRecDepth 100000 in
theorem v_N_apply : ∀ q ∈ tb_N_apply, xSd (0, 0) x0 xCl "NameMover" ws_N_apply prog_1_method_8_code 2 (some .int) rm_N_apply q :=
  xval (s_aload_n (f := 0) (by decide +kernel) rfl) (
  xval (s_getf (i := 10) (by decide +kernel) rfl tin_N (by decide) (tc tw_150)) (
  xval (s_callS (i := 151) c_P_least (by decide +kernel) rfl (xtt_good tw_175) (tc tw_173) (tc tw_174) (tc tw_15) ⟨by decide, by decide, by decide +kernel⟩ ⟨by decide, by decide, rfl, rfl, by decide, by decide⟩ x0_e) (
  xval (s_ifeq (z := 13) (by decide +kernel) (by decide)) (
  xval (s_throw (i := 82) (ik := 157) (ic := 86) (j := 7) (bs := prog_14_method_2_code) (tx := "there is a problem") (by decide +kernel) (by decide +kernel) (by decide +kernel) (by decide +kernel) (by decide +kernel) (tc tw_378) (tc tw_379) (tc tw_13) (tc tw_532) (by decide +kernel) (by decide +kernel) (by decide +kernel) (by decide +kernel) (by decide +kernel) (tow_2 (tc tw_388)) ⟨by decide, by decide, by decide, by decide⟩ x0_e) (
  xval (s_aload_n (f := 0) (by decide +kernel) rfl) (
  xval (s_getf (i := 10) (by decide +kernel) rfl tin_N (by decide) (tc tw_150)) (
  xval (s_callV (i := 159) c_S_changedNames (by decide +kernel) rfl (xtt_good tw_243) rfl (tc tw_240) (tc tw_241) (tc tw_242) (tc tw_2) ⟨by decide, by decide, by decide +kernel⟩ ⟨by decide, by decide, rfl, rfl, by decide, by decide⟩ x0_e) (
  xval (s_istore_n (f := 1) (by decide +kernel) rfl (by decide)) (
  xval (s_aload_n (f := 0) (by decide +kernel) rfl) (
  xval (s_getf (i := 10) (by decide +kernel) rfl tin_N (by decide) (tc tw_150)) (
  xval (s_callV (i := 162) c_S_takeNewNames (by decide +kernel) rfl (xtt_good tw_536) rfl (tc tw_533) (tc tw_534) (tc tw_535) (tc tw_2) ⟨by decide, by decide, by decide +kernel⟩ ⟨by decide, by decide, rfl, rfl, by decide, by decide⟩ x0_e) (
  xval (s_iload_n (f := 1) (by decide +kernel) rfl) (
  xval (s_iret (by decide +kernel)) (
  xval_nil))))))))))))))
theorem c_N_apply : xMet xCl y_N_apply ws_N_apply rm_N_apply (xRun tb_N_apply 2) := xMet.of (by decide) rfl v_N_apply
def tb_S_dropNewNames : xT := [(0, o_aload 0 1), (1, o_getf 1 0), (4, o_i 0 1), (5, o_aload 0 1), (6, o_getf 1 1), (9, o_i 0 1), (10, o_i 8 2), (12, o_copyl), (15, o_aload 0 1), (16, o_getf 1 6), (19, o_i 0 1), (20, o_aload 0 1), (21, o_getf 1 7), (24, o_i 0 1), (25, o_i 64 2), (27, o_copyl), (30, o_vret)]
abbrev y_S_dropNewNames : MethodName := ⟨"NameMover$Store", "dropNewNames", "()V"⟩
abbrev rm_S_dropNewNames : Room := { frames := 1, cells := 0, slots := 0, locals := 40 }
abbrev ws_S_dropNewNames : List Cond := Cond.code y_S_dropNewNames prog_8_method_20_code 1 (none) :: xtt
set_option maxRecDepth 100000 in
theorem v_S_dropNewNames : ∀ q ∈ tb_S_dropNewNames, xSd (0, 0) x0 xCl "NameMover$Store" ws_S_dropNewNames prog_8_method_20_code 1 (none) rm_S_dropNewNames q :=
  xval (s_aload_n (f := 0) (by decide +kernel) rfl) (
  xval (s_getf (i := 9) (by decide +kernel) rfl tin_S (by decide) (tc tw_33)) (
  xval (s_iconst (z := 0) (by decide +kernel) (by decide)) (
  xval (s_aload_n (f := 0) (by decide +kernel) rfl) (
  xval (s_getf (i := 13) (by decide +kernel) rfl tin_S (by decide) (tc tw_37)) (
  xval (s_iconst (z := 0) (by decide +kernel) (by decide)) (
  xval (s_bipush (z := 8) (by decide +kernel) (by decide)) (
  xval (s_copyl (i := 79) (by decide +kernel) (tc tw_250) (tc tw_252) (tc tw_251) (tc tw_16) ⟨by decide, by decide +kernel⟩) (
  xval (s_aload_n (f := 0) (by decide +kernel) rfl) (
  xval (s_getf (i := 30) (by decide +kernel) rfl tin_S (by decide) (tc tw_48)) (
  xval (s_iconst (z := 0) (by decide +kernel) (by decide)) (
  xval (s_aload_n (f := 0) (by decide +kernel) rfl) (
  xval (s_getf (i := 33) (by decide +kernel) rfl tin_S (by decide) (tc tw_52)) (
  xval (s_iconst (z := 0) (by decide +kernel) (by decide)) (
  xval (s_bipush (z := 64) (by decide +kernel) (by decide)) (
  xval (s_copyl (i := 79) (by decide +kernel) (tc tw_250) (tc tw_252) (tc tw_251) (tc tw_16) ⟨by decide, by decide +kernel⟩) (
  xval (s_vret (by decide +kernel)) (
  xval_nil)))))))))))))))))
theorem c_S_dropNewNames : xMet xCl y_S_dropNewNames ws_S_dropNewNames rm_S_dropNewNames (xRun tb_S_dropNewNames 1) := xMet.of (by decide) rfl v_S_dropNewNames
def tb_N_cancel : xT := [(0, o_aload 0 1), (1, o_getf 0 0), (4, o_callV (xRun tb_S_changedNames 3) 1 0 0 0), (7, o_istore 1 1), (8, o_aload 0 1), (9, o_getf 0 0), (12, o_callV (xRun tb_S_dropNewNames 1) 1 0 0 0), (15, o_iload 1 1), (16, o_iret)]
abbrev y_N_cancel : MethodName := ⟨"NameMover", "cancel", "()I"⟩
abbrev rm_N_cancel : Room := { frames := 4, cells := 0, slots := 0, locals := 86 }
abbrev ws_N_cancel : List Cond := Cond.code y_N_cancel prog_1_method_9_code 2 (some .int) :: xtt
set_option maxRecDepth 100000 in
theorem v_N_cancel : ∀ q ∈ tb_N_cancel, xSd (0, 0) x0 xCl "NameMover" ws_N_cancel prog_1_method_9_code 2 (some .int) rm_N_cancel q :=
  xval (s_aload_n (f := 0) (by decide +kernel) rfl) (
  xval (s_getf (i := 10) (by decide +kernel) rfl tin_N (by decide) (tc tw_150)) (
  xval (s_callV (i := 159) c_S_changedNames (by decide +kernel) rfl (xtt_good tw_243) rfl (tc tw_240) (tc tw_241) (tc tw_242) (tc tw_2) ⟨by decide, by decide, by decide +kernel⟩ ⟨by decide, by decide, rfl, rfl, by decide, by decide⟩ x0_e) (
  xval (s_istore_n (f := 1) (by decide +kernel) rfl (by decide)) (
  xval (s_aload_n (f := 0) (by decide +kernel) rfl) (
  xval (s_getf (i := 10) (by decide +kernel) rfl tin_N (by decide) (tc tw_150)) (
  xval (s_callV (i := 165) c_S_dropNewNames (by decide +kernel) rfl (xtt_good tw_249) rfl (tc tw_246) (tc tw_247) (tc tw_248) (tc tw_2) ⟨by decide, by decide, by decide +kernel⟩ ⟨by decide, by decide, rfl, rfl, by decide, by decide⟩ x0_e) (
  xval (s_iload_n (f := 1) (by decide +kernel) rfl) (
  xval (s_iret (by decide +kernel)) (
  xval_nil)))))))))
theorem c_N_cancel : xMet xCl y_N_cancel ws_N_cancel rm_N_cancel (xRun tb_N_cancel 2) := xMet.of (by decide) rfl v_N_cancel
def tb_N_classes : xT := [(0, o_aload 0 1), (1, o_getf 0 0), (4, o_getf 1 10), (7, o_iret)]
abbrev y_N_classes : MethodName := ⟨"NameMover", "classes", "()I"⟩
abbrev rm_N_classes : Room := { frames := 0, cells := 0, slots := 0, locals := 0 }
abbrev ws_N_classes : List Cond := Cond.code y_N_classes prog_1_method_10_code 1 (some .int) :: xtt
set_option maxRecDepth 100000 in
theorem v_N_classes : ∀ q ∈ tb_N_classes, xSd (0, 0) x0 xCl "NameMover" ws_N_classes prog_1_method_10_code 1 (some .int) rm_N_classes q :=
  xval (s_aload_n (f := 0) (by decide +kernel) rfl) (
  xval (s_getf (i := 10) (by decide +kernel) rfl tin_N (by decide) (tc tw_150)) (
  xval (s_getf (i := 74) (by decide +kernel) rfl tin_S (by decide) (tc tw_62)) (
  xval (s_iret (by decide +kernel)) (
  xval_nil))))
theorem c_N_classes : xMet xCl y_N_classes ws_N_classes rm_N_classes (xRun tb_N_classes 1) := xMet.of (by decide) rfl v_N_classes
def tb_N_className : xT := [(0, o_aload 0 1), (1, o_iload 1 1), (2, o_callV (xRun tb_N_requireClass 2) 0 1 1 1), (5, o_iload 2 1), (6, o_if (fun a => a = 0) 21), (9, o_aload 0 1), (10, o_getf 0 0), (13, o_getf 1 1), (16, o_iload 1 1), (17, o_laload), (18, o_goto 30), (21, o_aload 0 1), (22, o_getf 0 0), (25, o_getf 1 0), (28, o_iload 1 1), (29, o_laload), (30, o_lret)]
abbrev y_N_className : MethodName := ⟨"NameMover", "className", "(IZ)J"⟩
abbrev rm_N_className : Room := { frames := 7, cells := 1, slots := 6, locals := 103 }
abbrev ws_N_className : List Cond := Cond.code y_N_className prog_1_method_11_code 3 (some .long) :: xtt
set_option maxRecDepth 100000 in
theorem v_N_className : ∀ q ∈ tb_N_className, xSd (0, 0) x0 xCl "NameMover" ws_N_className prog_1_method_11_code 3 (some .long) rm_N_className q :=
  xval (s_aload_n (f := 0) (by decide +kernel) rfl) (
  xval (s_iload_n (f := 1) (by decide +kernel) rfl) (
  xval (s_callV (i := 95) c_N_requireClass (by decide +kernel) rfl (xtt_good tw_412) rfl (tc tw_409) (tc tw_411) (tc ts_1) (tc tw_1) ⟨by decide, by decide, by decide +kernel⟩ ⟨by decide, by decide, rfl, rfl, by decide, by decide⟩ x0_e) (
  xval (s_iload_n (f := 2) (by decide +kernel) rfl) (
  xval (s_ifeq (z := 15) (by decide +kernel) (by decide)) (
  xval (s_aload_n (f := 0) (by decide +kernel) rfl) (
  xval (s_getf (i := 10) (by decide +kernel) rfl tin_N (by decide) (tc tw_150)) (
  xval (s_getf (i := 120) (by decide +kernel) rfl tin_S (by decide) (tc tw_39)) (
  xval (s_iload_n (f := 1) (by decide +kernel) rfl) (
  xval (s_laload (by decide +kernel)) (
  xval (s_goto (z := 12) (by decide +kernel) (by decide)) (
  xval (s_aload_n (f := 0) (by decide +kernel) rfl) (
  xval (s_getf (i := 10) (by decide +kernel) rfl tin_N (by decide) (tc tw_150)) (
  xval (s_getf (i := 168) (by decide +kernel) rfl tin_S (by decide) (tc tw_36)) (
  xval (s_iload_n (f := 1) (by decide +kernel) rfl) (
  xval (s_laload (by decide +kernel)) (
  xval (s_lret (by decide +kernel)) (
  xval_nil)))))))))))))))))
theorem c_N_className : xMet xCl y_N_className ws_N_className rm_N_className (xRun tb_N_className 3) := xMet.of (by decide) rfl v_N_className
def tb_N_memberName : xT := [(0, o_aload 0 1), (1, o_iload 1 1), (2, o_iload 2 1), (3, o_callV (xRun tb_N_requireMember 3) 0 2 1 1), (6, o_iload 1 1), (7, o_iload 2 1), (8, o_call (xRun tb_S_number 2) 2 1 0), (11, o_istore 4 2), (13, o_iload 3 1), (14, o_if (fun a => a = 0) 30), (17, o_aload 0 1), (18, o_getf 0 0), (21, o_getf 1 7), (24, o_iload 4 2), (26, o_laload), (27, o_goto 40), (30, o_aload 0 1), (31, o_getf 0 0), (34, o_getf 1 6), (37, o_iload 4 2), (39, o_laload), (40, o_lret)]
abbrev y_N_memberName : MethodName := ⟨"NameMover", "memberName", "(IIZ)J"⟩
abbrev rm_N_memberName : Room := { frames := 7, cells := 1, slots := 6, locals := 104 }
abbrev ws_N_memberName : List Cond := Cond.code y_N_memberName prog_1_method_12_code 5 (some .long) :: xtt
set_option maxRecDepth 100000 in
theorem v_N_memberName : ∀ q ∈ tb_N_memberName, xSd (0, 0) x0 xCl "NameMover" ws_N_memberName prog_1_method_12_code 5 (some .long) rm_N_memberName q :=
  xval (s_aload_n (f := 0) (by decide +kernel) rfl) (
  xval (s_iload_n (f := 1) (by decide +kernel) rfl) (
  xval (s_iload_n (f := 2) (by decide +kernel) rfl) (
  xval (s_callV (i := 137) c_N_requireMember (by decide +kernel) rfl (xtt_good tw_502) rfl (tc tw_499) (tc tw_501) (tc ts_3) (tc tw_1) ⟨by decide, by decide, by decide +kernel⟩ ⟨by decide, by decide, rfl, rfl, by decide, by decide⟩ x0_e) (
  xval (s_iload_n (f := 1) (by decide +kernel) rfl) (
  xval (s_iload_n (f := 2) (by decide +kernel) rfl) (
  xval (s_callS (i := 143) c_S_number (by decide +kernel) rfl (xtt_good tw_446) (tc tw_506) (tc tw_445) (tc tw_2) ⟨by decide, by decide, by decide +kernel⟩ ⟨by decide, by decide, rfl, rfl, by decide, by decide⟩ x0_e) (
  xval (s_istore (by decide +kernel) (by decide)) (
  xval (s_iload_n (f := 3) (by decide +kernel) rfl) (
  xval (s_ifeq (z := 16) (by decide +kernel) (by decide)) (
  xval (s_aload_n (f := 0) (by decide +kernel) rfl) (
  xval (s_getf (i := 10) (by decide +kernel) rfl tin_N (by decide) (tc tw_150)) (
  xval (s_getf (i := 171) (by decide +kernel) rfl tin_S (by decide) (tc tw_54)) (
  xval (s_iload (by decide +kernel)) (
  xval (s_laload (by decide +kernel)) (
  xval (s_goto (z := 13) (by decide +kernel) (by decide)) (
  xval (s_aload_n (f := 0) (by decide +kernel) rfl) (
  xval (s_getf (i := 10) (by decide +kernel) rfl tin_N (by decide) (tc tw_150)) (
  xval (s_getf (i := 174) (by decide +kernel) rfl tin_S (by decide) (tc tw_51)) (
  xval (s_iload (by decide +kernel)) (
  xval (s_laload (by decide +kernel)) (
  xval (s_lret (by decide +kernel)) (
  xval_nil))))))))))))))))))))))
theorem c_N_memberName : xMet xCl y_N_memberName ws_N_memberName rm_N_memberName (xRun tb_N_memberName 5) := xMet.of (by decide) rfl v_N_memberName
def tb_S_inheritedMember : xT := [(0, o_iload 1 1), (1, o_istore 6 2), (3, o_iload 6 2), (5, o_if (fun a => a < 0) 48), (8, o_aload 0 1), (9, o_iload 6 2), (11, o_iload 1 1), (12, o_callV (xRun tb_S_isSameOrAncestor 3) 1 2 0 0), (15, o_if (fun a => a = 0) 30), (18, o_aload 0 1), (19, o_iload 6 2), (21, o_lload 2 1), (22, o_lload 4 2), (24, o_callV (xRun tb_S_ownMember 8) 1 3 0 0), (27, o_goto 31), (30, o_i (-1) 1), (31, o_istore 7 2), (33, o_iload 7 2), (35, o_i (-1) 1), (36, o_ic (fun a b => a = b) 42), (39, o_iload 7 2), (41, o_iret), (42, o_iinc 6 (-1)), (45, o_goto 3), (48, o_i (-1) 1), (49, o_iret)]
abbrev y_S_inheritedMember : MethodName := ⟨"NameMover$Store", "inheritedMember", "(IJJ)I"⟩
abbrev rm_S_inheritedMember : Room := { frames := 2, cells := 0, slots := 0, locals := 48 }
abbrev ws_S_inheritedMember : List Cond := Cond.code y_S_inheritedMember prog_8_method_11_code 8 (some .int) :: xtt
set_option maxRecDepth 100000 in
theorem v_S_inheritedMember : ∀ q ∈ tb_S_inheritedMember, xSd (0, 0) x0 xCl "NameMover$Store" ws_S_inheritedMember prog_8_method_11_code 8 (some .int) rm_S_inheritedMember q :=
  xval (s_iload_n (f := 1) (by decide +kernel) rfl) (
  xval (s_istore (by decide +kernel) (by decide)) (
  xval (s_iload (by decide +kernel)) (
  xval (s_iflt (z := 43) (by decide +kernel) (by decide)) (
  xval (s_aload_n (f := 0) (by decide +kernel) rfl) (
  xval (s_iload (by decide +kernel)) (
  xval (s_iload_n (f := 1) (by decide +kernel) rfl) (
  xval (s_callV (i := 62) c_S_isSameOrAncestor (by decide +kernel) rfl (xtt_good tw_235) rfl (tc tw_524) (tc tw_233) (tc tw_234) (tc tw_2) ⟨by decide, by decide, by decide +kernel⟩ ⟨by decide, by decide, rfl, rfl, by decide, by decide⟩ x0_e) (
  xval (s_ifeq (z := 15) (by decide +kernel) (by decide)) (
  xval (s_aload_n (f := 0) (by decide +kernel) rfl) (
  xval (s_iload (by decide +kernel)) (
  xval (s_lload_n (f := 2) (by decide +kernel) rfl) (
  xval (s_lload (by decide +kernel)) (
  xval (s_callV (i := 65) c_S_ownMember (by decide +kernel) rfl (xtt_good tw_443) rfl (tc tw_440) (tc tw_441) (tc tw_442) (tc tw_2) ⟨by decide, by decide, by decide +kernel⟩ ⟨by decide, by decide, rfl, rfl, by decide, by decide⟩ x0_e) (
  xval (s_goto (z := 4) (by decide +kernel) (by decide)) (
  xval (s_iconst (z := (-1)) (by decide +kernel) (by decide)) (
  xval (s_istore (by decide +kernel) (by decide)) (
  xval (s_iload (by decide +kernel)) (
  xval (s_iconst (z := (-1)) (by decide +kernel) (by decide)) (
  xval (s_iceq (z := 6) (by decide +kernel) (by decide)) (
  xval (s_iload (by decide +kernel)) (
  xval (s_iret (by decide +kernel)) (
  xval (s_iinc (z := (-1)) (by decide +kernel) (by decide) (by decide)) (
  xval (s_goto (z := (-42)) (by decide +kernel) (by decide)) (
  xval (s_iconst (z := (-1)) (by decide +kernel) (by decide)) (
  xval (s_iret (by decide +kernel)) (
  xval_nil))))))))))))))))))))))))))
theorem c_S_inheritedMember : xMet xCl y_S_inheritedMember ws_S_inheritedMember rm_S_inheritedMember (xRun tb_S_inheritedMember 8) := xMet.of (by decide) rfl v_S_inheritedMember
