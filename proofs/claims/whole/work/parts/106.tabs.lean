def tb_R_placeClass : xT := [(0, o_aload 0 1), (1, o_callV (xRun tb_R_skipPool 2) 4 0 0 0), (4, o_ifn (fun a => a = 0) 9), (7, o_i 0 1), (8, o_zret), (9, o_aload 0 1), (10, o_aload 0 1), (11, o_callV (xRun tb_R_nextText 2) 4 0 0 0), (14, o_callV (xRun tb_R_shortText1 2) 4 1 0 0), (17, o_lstore 1 1), (18, o_lload 1 1), (19, o_call (xRun tb_T_isClassName 6) 1 0 0), (22, o_if (fun a => a = 0) 44), (25, o_aload 0 1), (26, o_getf 4 0), (29, o_lload 1 1), (30, o_aload 0 1), (31, o_getf 4 0), (34, o_getf 1 10), (37, o_callV (xRun tb_S_classNamed 5) 1 2 0 0), (40, o_i (-1) 1), (41, o_ic (fun a b => a = b) 46), (44, o_i 0 1), (45, o_zret), (46, o_aload 0 1), (47, o_callV (xRun tb_R_nextSuperclass 3) 4 0 0 0), (50, o_istore 3 1), (51, o_iload 3 1), (52, o_i (-2) 2), (54, o_icn (fun a b => a = b) 59), (57, o_i 0 1), (58, o_zret), (59, o_aload 0 1), (60, o_getf 4 0), (63, o_lload 1 1), (64, o_iload 3 1), (65, o_aload 0 1), (66, o_callV (xRun tb_R_nextByte 1) 4 0 0 0), (69, o_i 1 1), (70, o_icn (fun a b => a = b) 77), (73, o_i 1 1), (74, o_goto 78), (77, o_i 0 1), (78, o_callV (xRun tb_S_placeClass 5) 1 3 0 0), (81, o_aload 0 1), (82, o_callV (xRun tb_R_nextByte 1) 4 0 0 0), (85, o_istore 4 2), (87, o_i 0 1), (88, o_istore 5 2), (90, o_iload 5 2), (92, o_iload 4 2), (94, o_ic (fun a b => b ≤ a) 112), (97, o_aload 0 1), (98, o_callV (xRun tb_R_placeMember 7) 4 0 0 0), (101, o_ifn (fun a => a = 0) 106), (104, o_i 0 1), (105, o_zret), (106, o_iinc 5 1), (109, o_goto 90), (112, o_i 1 1), (113, o_zret)]
abbrev y_R_placeClass : MethodName := ⟨"NameMover$ClassReader", "placeClass", "()Z"⟩
abbrev rm_R_placeClass : Room := { frames := 5, cells := 0, slots := 0, locals := 124 }
abbrev ws_R_placeClass : List Cond := Cond.code y_R_placeClass prog_3_method_2_code 6 (some .boolean) :: xtt
set_option maxRecDepth 100000 in
theorem v_R_placeClass : ∀ q ∈ tb_R_placeClass, xSd (0, 0) x0 xCl "NameMover$ClassReader" ws_R_placeClass prog_3_method_2_code 6 (some .boolean) rm_R_placeClass q :=
  xval (s_aload_n (f := 0) (by decide +kernel) rfl) (
  xval (s_callV (i := 30) c_R_skipPool (by decide +kernel) rfl (xtt_good tw_698) rfl (tc tw_695) (tc tw_697) (tc ts_16) (tc tw_5) ⟨by decide, by decide, by decide +kernel⟩ ⟨by decide, by decide, rfl, rfl, by decide, by decide⟩ x0_e) (
  xval (s_ifne (z := 5) (by decide +kernel) (by decide)) (
  xval (s_iconst (z := 0) (by decide +kernel) (by decide)) (
  xval (s_zret (by decide +kernel)) (
  xval (s_aload_n (f := 0) (by decide +kernel) rfl) (
  xval (s_aload_n (f := 0) (by decide +kernel) rfl) (
  xval (s_callV (i := 34) c_R_nextText (by decide +kernel) rfl (xtt_good tw_704) rfl (tc tw_701) (tc tw_703) (tc ts_17) (tc tw_5) ⟨by decide, by decide, by decide +kernel⟩ ⟨by decide, by decide, rfl, rfl, by decide, by decide⟩ x0_e) (
  xval (s_callV (i := 38) c_R_shortText1 (by decide +kernel) rfl (xtt_good tw_712) rfl (tc tw_709) (tc tw_711) (tc ts_19) (tc tw_5) ⟨by decide, by decide, by decide +kernel⟩ ⟨by decide, by decide, rfl, rfl, by decide, by decide⟩ x0_e) (
  xval (s_lstore_n (f := 1) (by decide +kernel) rfl (by decide)) (
  xval (s_lload_n (f := 1) (by decide +kernel) rfl) (
  xval (s_callS (i := 42) c_T_isClassName (by decide +kernel) rfl (xtt_good tw_269) (tc tw_726) (tc tw_268) (tc tw_7) ⟨by decide, by decide, by decide +kernel⟩ ⟨by decide, by decide, rfl, rfl, by decide, by decide⟩ x0_e) (
  xval (s_ifeq (z := 22) (by decide +kernel) (by decide)) (
  xval (s_aload_n (f := 0) (by decide +kernel) rfl) (
  xval (s_getf (i := 22) (by decide +kernel) rfl tin_R (by decide) (tc tw_134)) (
  xval (s_lload_n (f := 1) (by decide +kernel) rfl) (
  xval (s_aload_n (f := 0) (by decide +kernel) rfl) (
  xval (s_getf (i := 22) (by decide +kernel) rfl tin_R (by decide) (tc tw_134)) (
  xval (s_getf (i := 48) (by decide +kernel) rfl tin_S (by decide) (tc tw_61)) (
  xval (s_callV (i := 53) c_S_classNamed (by decide +kernel) rfl (xtt_good tw_377) rfl (tc tw_727) (tc tw_375) (tc tw_376) (tc tw_2) ⟨by decide, by decide, by decide +kernel⟩ ⟨by decide, by decide, rfl, rfl, by decide, by decide⟩ x0_e) (
  xval (s_iconst (z := (-1)) (by decide +kernel) (by decide)) (
  xval (s_iceq (z := 5) (by decide +kernel) (by decide)) (
  xval (s_iconst (z := 0) (by decide +kernel) (by decide)) (
  xval (s_zret (by decide +kernel)) (
  xval (s_aload_n (f := 0) (by decide +kernel) rfl) (
  xval (s_callV (i := 57) c_R_nextSuperclass (by decide +kernel) rfl (xtt_good tw_731) rfl (tc tw_728) (tc tw_730) (tc ts_23) (tc tw_5) ⟨by decide, by decide, by decide +kernel⟩ ⟨by decide, by decide, rfl, rfl, by decide, by decide⟩ x0_e) (
  xval (s_istore_n (f := 3) (by decide +kernel) rfl (by decide)) (
  xval (s_iload_n (f := 3) (by decide +kernel) rfl) (
  xval (s_bipush (z := (-2)) (by decide +kernel) (by decide)) (
  xval (s_icne (z := 5) (by decide +kernel) (by decide)) (
  xval (s_iconst (z := 0) (by decide +kernel) (by decide)) (
  xval (s_zret (by decide +kernel)) (
  xval (s_aload_n (f := 0) (by decide +kernel) rfl) (
  xval (s_getf (i := 22) (by decide +kernel) rfl tin_R (by decide) (tc tw_134)) (
  xval (s_lload_n (f := 1) (by decide +kernel) rfl) (
  xval (s_iload_n (f := 3) (by decide +kernel) rfl) (
  xval (s_aload_n (f := 0) (by decide +kernel) rfl) (
  xval (s_callV (i := 60) c_R_nextByte (by decide +kernel) rfl (xtt_good tw_708) rfl (tc tw_705) (tc tw_707) (tc ts_18) (tc tw_5) ⟨by decide, by decide, by decide +kernel⟩ ⟨by decide, by decide, rfl, rfl, by decide, by decide⟩ x0_e) (
  xval (s_iconst (z := 1) (by decide +kernel) (by decide)) (
  xval (s_icne (z := 7) (by decide +kernel) (by decide)) (
  xval (s_iconst (z := 1) (by decide +kernel) (by decide)) (
  xval (s_goto (z := 4) (by decide +kernel) (by decide)) (
  xval (s_iconst (z := 0) (by decide +kernel) (by decide)) (
  xval (s_callV (i := 63) c_S_placeClass (by decide +kernel) rfl (xtt_good tw_397) rfl (tc tw_732) (tc tw_395) (tc tw_396) (tc tw_2) ⟨by decide, by decide, by decide +kernel⟩ ⟨by decide, by decide, rfl, rfl, by decide, by decide⟩ x0_e) (
  xval (s_aload_n (f := 0) (by decide +kernel) rfl) (
  xval (s_callV (i := 60) c_R_nextByte (by decide +kernel) rfl (xtt_good tw_708) rfl (tc tw_705) (tc tw_707) (tc ts_18) (tc tw_5) ⟨by decide, by decide, by decide +kernel⟩ ⟨by decide, by decide, rfl, rfl, by decide, by decide⟩ x0_e) (
  xval (s_istore (by decide +kernel) (by decide)) (
  xval (s_iconst (z := 0) (by decide +kernel) (by decide)) (
  xval (s_istore (by decide +kernel) (by decide)) (
  xval (s_iload (by decide +kernel)) (
  xval (s_iload (by decide +kernel)) (
  xval (s_icge (z := 18) (by decide +kernel) (by decide)) (
  xval (s_aload_n (f := 0) (by decide +kernel) rfl) (
  xval (s_callV (i := 67) c_R_placeMember (by decide +kernel) rfl (xtt_good tw_736) rfl (tc tw_733) (tc tw_735) (tc ts_24) (tc tw_5) ⟨by decide, by decide, by decide +kernel⟩ ⟨by decide, by decide, rfl, rfl, by decide, by decide⟩ x0_e) (
  xval (s_ifne (z := 5) (by decide +kernel) (by decide)) (
  xval (s_iconst (z := 0) (by decide +kernel) (by decide)) (
  xval (s_zret (by decide +kernel)) (
  xval (s_iinc (z := 1) (by decide +kernel) (by decide) (by decide)) (
  xval (s_goto (z := (-19)) (by decide +kernel) (by decide)) (
  xval (s_iconst (z := 1) (by decide +kernel) (by decide)) (
  xval (s_zret (by decide +kernel)) (
  xval_nil)))))))))))))))))))))))))))))))))))))))))))))))))))))))))))))
theorem c_R_placeClass : xMet xCl y_R_placeClass ws_R_placeClass rm_R_placeClass (xRun tb_R_placeClass 6) := xMet.of (by decide) rfl v_R_placeClass
def tb_B_isEqualTo : xT := [(0, o_aload 0 1), (1, o_getf 2 1), (4, o_aload 1 1), (5, o_getf 2 1), (8, o_icn (fun a b => a = b) 29), (11, o_aload 0 1), (12, o_i 0 1), (13, o_aload 1 1), (14, o_i 0 1), (15, o_aload 0 1), (16, o_getf 2 1), (19, o_callV (xRun tb_B_hasEqualBytes 6) 2 4 0 0), (22, o_if (fun a => a = 0) 29), (25, o_i 1 1), (26, o_goto 30), (29, o_i 0 1), (30, o_zret)]
abbrev y_B_isEqualTo : MethodName := ⟨"NameMover$ByteRow", "isEqualTo", "(LNameMover$ByteRow;)Z"⟩
abbrev rm_B_isEqualTo : Room := { frames := 2, cells := 0, slots := 0, locals := 46 }
abbrev ws_B_isEqualTo : List Cond := Cond.code y_B_isEqualTo prog_2_method_8_code 2 (some .boolean) :: xtt
set_option maxRecDepth 100000 in
theorem v_B_isEqualTo : ∀ q ∈ tb_B_isEqualTo, xSd (0, 0) x0 xCl "NameMover$ByteRow" ws_B_isEqualTo prog_2_method_8_code 2 (some .boolean) rm_B_isEqualTo q :=
  xval (s_aload_n (f := 0) (by decide +kernel) rfl) (
  xval (s_getf (i := 13) (by decide +kernel) rfl tin_B (by decide) (tc tw_97)) (
  xval (s_aload_n (f := 1) (by decide +kernel) rfl) (
  xval (s_getf (i := 13) (by decide +kernel) rfl tin_B (by decide) (tc tw_97)) (
  xval (s_icne (z := 21) (by decide +kernel) (by decide)) (
  xval (s_aload_n (f := 0) (by decide +kernel) rfl) (
  xval (s_iconst (z := 0) (by decide +kernel) (by decide)) (
  xval (s_aload_n (f := 1) (by decide +kernel) rfl) (
  xval (s_iconst (z := 0) (by decide +kernel) (by decide)) (
  xval (s_aload_n (f := 0) (by decide +kernel) rfl) (
  xval (s_getf (i := 13) (by decide +kernel) rfl tin_B (by decide) (tc tw_97)) (
  xval (s_callV (i := 30) c_B_hasEqualBytes (by decide +kernel) rfl (xtt_good tw_640) rfl (tc tw_758) (tc tw_638) (tc tw_639) (tc tw_3) ⟨by decide, by decide, by decide +kernel⟩ ⟨by decide, by decide, rfl, rfl, by decide, by decide⟩ x0_e) (
  xval (s_ifeq (z := 7) (by decide +kernel) (by decide)) (
  xval (s_iconst (z := 1) (by decide +kernel) (by decide)) (
  xval (s_goto (z := 4) (by decide +kernel) (by decide)) (
  xval (s_iconst (z := 0) (by decide +kernel) (by decide)) (
  xval (s_zret (by decide +kernel)) (
  xval_nil)))))))))))))))))
theorem c_B_isEqualTo : xMet xCl y_B_isEqualTo ws_B_isEqualTo rm_B_isEqualTo (xRun tb_B_isEqualTo 2) := xMet.of (by decide) rfl v_B_isEqualTo
def tb_N_isFileOfPlacedClass : xT := [(0, o_aload 0 1), (1, o_getf 0 4), (4, o_aload 0 1), (5, o_getf 0 0), (8, o_getf 1 10), (11, o_callV (xRun tb_W_compose 5) 3 1 0 0), (14, o_aload 0 1), (15, o_getf 0 2), (18, o_aload 0 1), (19, o_getf 0 1), (22, o_callV (xRun tb_B_isEqualTo 2) 2 1 0 0), (25, o_zret)]
abbrev y_N_isFileOfPlacedClass : MethodName := ⟨"NameMover", "isFileOfPlacedClass", "()Z"⟩
abbrev rm_N_isFileOfPlacedClass : Room := { frames := 5, cells := 0, slots := 0, locals := 118 }
abbrev ws_N_isFileOfPlacedClass : List Cond := Cond.code y_N_isFileOfPlacedClass prog_1_method_18_code 1 (some .boolean) :: xtt
set_option maxRecDepth 100000 in
theorem v_N_isFileOfPlacedClass : ∀ q ∈ tb_N_isFileOfPlacedClass, xSd (0, 0) x0 xCl "NameMover" ws_N_isFileOfPlacedClass prog_1_method_18_code 1 (some .boolean) rm_N_isFileOfPlacedClass q :=
  xval (s_aload_n (f := 0) (by decide +kernel) rfl) (
  xval (s_getf (i := 35) (by decide +kernel) rfl tin_N (by decide) (tc tw_154)) (
  xval (s_aload_n (f := 0) (by decide +kernel) rfl) (
  xval (s_getf (i := 10) (by decide +kernel) rfl tin_N (by decide) (tc tw_150)) (
  xval (s_getf (i := 74) (by decide +kernel) rfl tin_S (by decide) (tc tw_62)) (
  xval (s_callV (i := 186) c_W_compose (by decide +kernel) rfl (xtt_good tw_588) rfl (tc tw_585) (tc tw_586) (tc tw_587) (tc tw_4) ⟨by decide, by decide, by decide +kernel⟩ ⟨by decide, by decide, rfl, rfl, by decide, by decide⟩ x0_e) (
  xval (s_aload_n (f := 0) (by decide +kernel) rfl) (
  xval (s_getf (i := 23) (by decide +kernel) rfl tin_N (by decide) (tc tw_152)) (
  xval (s_aload_n (f := 0) (by decide +kernel) rfl) (
  xval (s_getf (i := 19) (by decide +kernel) rfl tin_N (by decide) (tc tw_151)) (
  xval (s_callV (i := 213) c_B_isEqualTo (by decide +kernel) rfl (xtt_good tw_757) rfl (tc tw_754) (tc tw_755) (tc tw_756) (tc tw_3) ⟨by decide, by decide, by decide +kernel⟩ ⟨by decide, by decide, rfl, rfl, by decide, by decide⟩ x0_e) (
  xval (s_zret (by decide +kernel)) (
  xval_nil))))))))))))
theorem c_N_isFileOfPlacedClass : xMet xCl y_N_isFileOfPlacedClass ws_N_isFileOfPlacedClass rm_N_isFileOfPlacedClass (xRun tb_N_isFileOfPlacedClass 1) := xMet.of (by decide) rfl v_N_isFileOfPlacedClass
def tb_N_load : xT := [(0, o_aload 0 1), (1, o_getf 0 0), (4, o_callV (xRun tb_S_isMoving 1) 1 0 1 0), (7, o_ifn (fun a => a = 0) 20), (10, o_aload 0 1), (11, o_getf 0 0), (14, o_callV (xRun tb_S_isFull 1) 1 0 1 0), (17, o_if (fun a => a = 0) 30), (20, o_throw 2 1), (30, o_aload 0 1), (31, o_getf 0 5), (34, o_callV (xRun tb_R_placeClass 6) 4 0 1 0), (37, o_if (fun a => a = 0) 47), (40, o_aload 0 1), (41, o_callV (xRun tb_N_isFileOfPlacedClass 1) 0 0 1 0), (44, o_ifn (fun a => a = 0) 57), (47, o_throw 0 1), (57, o_aload 0 1), (58, o_getf 0 0), (61, o_callV (xRun tb_S_countPlacedClass 1) 1 0 1 0), (64, o_iret)]
abbrev y_N_load : MethodName := ⟨"NameMover", "load", "()I"⟩
abbrev rm_N_load : Room := { frames := 6, cells := 1, slots := 6, locals := 149 }
abbrev ws_N_load : List Cond := Cond.code y_N_load prog_1_method_17_code 1 (some .int) :: xtt
set_option maxRecDepth 100000 in
theorem v_N_load : ∀ q ∈ tb_N_load, xSd (0, 0) x0 xCl "NameMover" ws_N_load prog_1_method_17_code 1 (some .int) rm_N_load q :=
  xval (s_aload_n (f := 0) (by decide +kernel) rfl) (
  xval (s_getf (i := 10) (by decide +kernel) rfl tin_N (by decide) (tc tw_150)) (
  xval (s_callV (i := 67) c_S_isMoving (by decide +kernel) rfl (xtt_good tw_368) rfl (tc tw_365) (tc tw_366) (tc tw_367) (tc tw_2) ⟨by decide, by decide, by decide +kernel⟩ ⟨by decide, by decide, rfl, rfl, by decide, by decide⟩ x0_e) (
  xval (s_ifne (z := 13) (by decide +kernel) (by decide)) (
  xval (s_aload_n (f := 0) (by decide +kernel) rfl) (
  xval (s_getf (i := 10) (by decide +kernel) rfl tin_N (by decide) (tc tw_150)) (
  xval (s_callV (i := 71) c_S_isFull (by decide +kernel) rfl (xtt_good tw_373) rfl (tc tw_370) (tc tw_371) (tc tw_372) (tc tw_2) ⟨by decide, by decide, by decide +kernel⟩ ⟨by decide, by decide, rfl, rfl, by decide, by decide⟩ x0_e) (
  xval (s_ifeq (z := 13) (by decide +kernel) (by decide)) (
  xval (s_throw (i := 82) (ik := 204) (ic := 86) (j := 7) (bs := prog_14_method_2_code) (tx := "moving, or 8 classes") (by decide +kernel) (by decide +kernel) (by decide +kernel) (by decide +kernel) (by decide +kernel) (tc tw_378) (tc tw_379) (tc tw_13) (tc tw_690) (by decide +kernel) (by decide +kernel) (by decide +kernel) (by decide +kernel) (by decide +kernel) (tow_2 (tc tw_388)) ⟨by decide, by decide, by decide, by decide⟩ x0_e) (
  xval (s_aload_n (f := 0) (by decide +kernel) rfl) (
  xval (s_getf (i := 41) (by decide +kernel) rfl tin_N (by decide) (tc tw_155)) (
  xval (s_callV (i := 206) c_R_placeClass (by decide +kernel) rfl (xtt_good tw_694) rfl (tc tw_691) (tc tw_692) (tc tw_693) (tc tw_5) ⟨by decide, by decide, by decide +kernel⟩ ⟨by decide, by decide, rfl, rfl, by decide, by decide⟩ x0_e) (
  xval (s_ifeq (z := 10) (by decide +kernel) (by decide)) (
  xval (s_aload_n (f := 0) (by decide +kernel) rfl) (
  xval (s_callV (i := 208) c_N_isFileOfPlacedClass (by decide +kernel) rfl (xtt_good tw_753) rfl (tc tw_750) (tc tw_752) (tc ts_27) (tc tw_1) ⟨by decide, by decide, by decide +kernel⟩ ⟨by decide, by decide, rfl, rfl, by decide, by decide⟩ x0_e) (
  xval (s_ifne (z := 13) (by decide +kernel) (by decide)) (
  xval (s_throw (i := 51) (ik := 211) (ic := 55) (j := 7) (bs := prog_13_method_2_code) (tx := "no class has this file") (by decide +kernel) (by decide +kernel) (by decide +kernel) (by decide +kernel) (by decide +kernel) (tc tw_279) (tc tw_280) (tc tw_11) (tc tw_759) (by decide +kernel) (by decide +kernel) (by decide +kernel) (by decide +kernel) (by decide +kernel) (tow_0 (tc tw_322)) ⟨by decide, by decide, by decide, by decide⟩ x0_e) (
  xval (s_aload_n (f := 0) (by decide +kernel) rfl) (
  xval (s_getf (i := 10) (by decide +kernel) rfl tin_N (by decide) (tc tw_150)) (
  xval (s_callV (i := 91) c_S_countPlacedClass (by decide +kernel) rfl (xtt_good tw_401) rfl (tc tw_398) (tc tw_399) (tc tw_400) (tc tw_2) ⟨by decide, by decide, by decide +kernel⟩ ⟨by decide, by decide, rfl, rfl, by decide, by decide⟩ x0_e) (
  xval (s_iret (by decide +kernel)) (
  xval_nil)))))))))))))))))))))
theorem c_N_load : xMet xCl y_N_load ws_N_load rm_N_load (xRun tb_N_load 1) := xMet.of (by decide) rfl v_N_load
def tb_M_thrown : xT := [(0, o_aload 0 1), (1, o_getf 5 0), (4, o_iret)]
abbrev y_M_thrown : MethodName := ⟨"NameMoverModel", "thrown", "()I"⟩
abbrev rm_M_thrown : Room := { frames := 0, cells := 0, slots := 0, locals := 0 }
abbrev ws_M_thrown : List Cond := Cond.code y_M_thrown prog_11_method_2_code 1 (some .int) :: xtt
set_option maxRecDepth 100000 in
theorem v_M_thrown : ∀ q ∈ tb_M_thrown, xSd (0, 0) x0 xCl "NameMoverModel" ws_M_thrown prog_11_method_2_code 1 (some .int) rm_M_thrown q :=
  xval (s_aload_n (f := 0) (by decide +kernel) rfl) (
  xval (s_getf (i := 60) (by decide +kernel) rfl tin_M (by decide) (tc tw_766)) (
  xval (s_iret (by decide +kernel)) (
  xval_nil)))
theorem c_M_thrown : xMet xCl y_M_thrown ws_M_thrown rm_M_thrown (xRun tb_M_thrown 1) := xMet.of (by decide) rfl v_M_thrown
def tb_M_charAt : xT := [(0, o_lload 0 1), (1, o_i 8 2), (3, o_iload 2 1), (4, o_ii (fun a b => a * b)), (5, o_li xushr), (6, o_l 255 3), (9, o_ll (fun a b => a &&& b)), (10, o_l2i), (11, o_iret)]
abbrev y_M_charAt : MethodName := ⟨"NameMoverModel", "charAt", "(JI)I"⟩
abbrev rm_M_charAt : Room := { frames := 0, cells := 0, slots := 0, locals := 0 }
abbrev ws_M_charAt : List Cond := Cond.code y_M_charAt prog_11_method_3_code 3 (some .int) :: xtt
set_option maxRecDepth 100000 in
theorem v_M_charAt : ∀ q ∈ tb_M_charAt, xSd (0, 0) x0 xCl "NameMoverModel" ws_M_charAt prog_11_method_3_code 3 (some .int) rm_M_charAt q :=
  xval (s_lload_n (f := 0) (by decide +kernel) rfl) (
  xval (s_bipush (z := 8) (by decide +kernel) (by decide)) (
  xval (s_iload_n (f := 2) (by decide +kernel) rfl) (
  xval (s_imul (by decide +kernel)) (
  xval (s_lushr (by decide +kernel)) (
  xval (s_ldc2 (i := 64) (by decide +kernel) (tc tw_853)) (
  xval (s_land (by decide +kernel)) (
  xval (s_l2i (by decide +kernel)) (
  xval (s_iret (by decide +kernel)) (
  xval_nil)))))))))
theorem c_M_charAt : xMet xCl y_M_charAt ws_M_charAt rm_M_charAt (xRun tb_M_charAt 3) := xMet.of (by decide) rfl v_M_charAt
def tb_M_length : xT := [(0, o_i 0 1), (1, o_istore 2 1), (2, o_iload 2 1), (3, o_i 8 2), (5, o_ic (fun a b => b ≤ a) 22), (8, o_lload 0 1), (9, o_iload 2 1), (10, o_call (xRun tb_M_charAt 3) 2 0 0), (13, o_if (fun a => a = 0) 22), (16, o_iinc 2 1), (19, o_goto 2), (22, o_iload 2 1), (23, o_iret)]
abbrev y_M_length : MethodName := ⟨"NameMoverModel", "length", "(J)I"⟩
abbrev rm_M_length : Room := { frames := 1, cells := 0, slots := 0, locals := 22 }
abbrev ws_M_length : List Cond := Cond.code y_M_length prog_11_method_4_code 3 (some .int) :: xtt
set_option maxRecDepth 100000 in
theorem v_M_length : ∀ q ∈ tb_M_length, xSd (0, 0) x0 xCl "NameMoverModel" ws_M_length prog_11_method_4_code 3 (some .int) rm_M_length q :=
  xval (s_iconst (z := 0) (by decide +kernel) (by decide)) (
  xval (s_istore_n (f := 2) (by decide +kernel) rfl (by decide)) (
  xval (s_iload_n (f := 2) (by decide +kernel) rfl) (
  xval (s_bipush (z := 8) (by decide +kernel) (by decide)) (
  xval (s_icge (z := 17) (by decide +kernel) (by decide)) (
  xval (s_lload_n (f := 0) (by decide +kernel) rfl) (
  xval (s_iload_n (f := 2) (by decide +kernel) rfl) (
  xval (s_callS (i := 66) c_M_charAt (by decide +kernel) rfl (xtt_good tw_852) (tc tw_850) (tc tw_851) (tc tw_6) ⟨by decide, by decide, by decide +kernel⟩ ⟨by decide, by decide, rfl, rfl, by decide, by decide⟩ x0_e) (
  xval (s_ifeq (z := 9) (by decide +kernel) (by decide)) (
  xval (s_iinc (z := 1) (by decide +kernel) (by decide) (by decide)) (
  xval (s_goto (z := (-17)) (by decide +kernel) (by decide)) (
  xval (s_iload_n (f := 2) (by decide +kernel) rfl) (
  xval (s_iret (by decide +kernel)) (
  xval_nil)))))))))))))
theorem c_M_length : xMet xCl y_M_length ws_M_length rm_M_length (xRun tb_M_length 3) := xMet.of (by decide) rfl v_M_length
def tb_M_isText : xT := [(0, o_lload 0 1), (1, o_call (xRun tb_M_length 3) 1 0 0), (4, o_istore 2 1), (5, o_i 1 1), (6, o_istore 3 1), (7, o_iload 2 1), (8, o_istore 4 2), (10, o_iload 4 2), (12, o_i 8 2), (14, o_ic (fun a b => b ≤ a) 42), (17, o_iload 3 1), (18, o_if (fun a => a = 0) 34), (21, o_lload 0 1), (22, o_iload 4 2), (24, o_call (xRun tb_M_charAt 3) 2 0 0), (27, o_ifn (fun a => a = 0) 34), (30, o_i 1 1), (31, o_goto 35), (34, o_i 0 1), (35, o_istore 3 1), (36, o_iinc 4 1), (39, o_goto 10), (42, o_iload 3 1), (43, o_zret)]
abbrev y_M_isText : MethodName := ⟨"NameMoverModel", "isText", "(J)Z"⟩
abbrev rm_M_isText : Room := { frames := 2, cells := 0, slots := 0, locals := 44 }
abbrev ws_M_isText : List Cond := Cond.code y_M_isText prog_11_method_5_code 5 (some .boolean) :: xtt
set_option maxRecDepth 100000 in
theorem v_M_isText : ∀ q ∈ tb_M_isText, xSd (0, 0) x0 xCl "NameMoverModel" ws_M_isText prog_11_method_5_code 5 (some .boolean) rm_M_isText q :=
  xval (s_lload_n (f := 0) (by decide +kernel) rfl) (
  xval (s_callS (i := 70) c_M_length (by decide +kernel) rfl (xtt_good tw_849) (tc tw_847) (tc tw_848) (tc tw_6) ⟨by decide, by decide, by decide +kernel⟩ ⟨by decide, by decide, rfl, rfl, by decide, by decide⟩ x0_e) (
  xval (s_istore_n (f := 2) (by decide +kernel) rfl (by decide)) (
  xval (s_iconst (z := 1) (by decide +kernel) (by decide)) (
  xval (s_istore_n (f := 3) (by decide +kernel) rfl (by decide)) (
  xval (s_iload_n (f := 2) (by decide +kernel) rfl) (
  xval (s_istore (by decide +kernel) (by decide)) (
  xval (s_iload (by decide +kernel)) (
  xval (s_bipush (z := 8) (by decide +kernel) (by decide)) (
  xval (s_icge (z := 28) (by decide +kernel) (by decide)) (
  xval (s_iload_n (f := 3) (by decide +kernel) rfl) (
  xval (s_ifeq (z := 16) (by decide +kernel) (by decide)) (
  xval (s_lload_n (f := 0) (by decide +kernel) rfl) (
  xval (s_iload (by decide +kernel)) (
  xval (s_callS (i := 66) c_M_charAt (by decide +kernel) rfl (xtt_good tw_852) (tc tw_850) (tc tw_851) (tc tw_6) ⟨by decide, by decide, by decide +kernel⟩ ⟨by decide, by decide, rfl, rfl, by decide, by decide⟩ x0_e) (
  xval (s_ifne (z := 7) (by decide +kernel) (by decide)) (
  xval (s_iconst (z := 1) (by decide +kernel) (by decide)) (
  xval (s_goto (z := 4) (by decide +kernel) (by decide)) (
  xval (s_iconst (z := 0) (by decide +kernel) (by decide)) (
  xval (s_istore_n (f := 3) (by decide +kernel) rfl (by decide)) (
  xval (s_iinc (z := 1) (by decide +kernel) (by decide) (by decide)) (
  xval (s_goto (z := (-29)) (by decide +kernel) (by decide)) (
  xval (s_iload_n (f := 3) (by decide +kernel) rfl) (
  xval (s_zret (by decide +kernel)) (
  xval_nil))))))))))))))))))))))))
theorem c_M_isText : xMet xCl y_M_isText ws_M_isText rm_M_isText (xRun tb_M_isText 5) := xMet.of (by decide) rfl v_M_isText
def tb_M_isLetter : xT := [(0, o_iload 0 1), (1, o_i 97 2), (3, o_ic (fun a b => a < b) 12), (6, o_iload 0 1), (7, o_i 122 2), (9, o_ic (fun a b => a ≤ b) 24), (12, o_iload 0 1), (13, o_i 65 2), (15, o_ic (fun a b => a < b) 28), (18, o_iload 0 1), (19, o_i 90 2), (21, o_ic (fun a b => b < a) 28), (24, o_i 1 1), (25, o_goto 29), (28, o_i 0 1), (29, o_zret)]
abbrev y_M_isLetter : MethodName := ⟨"NameMoverModel", "isLetter", "(I)Z"⟩
abbrev rm_M_isLetter : Room := { frames := 0, cells := 0, slots := 0, locals := 0 }
abbrev ws_M_isLetter : List Cond := Cond.code y_M_isLetter prog_11_method_6_code 1 (some .boolean) :: xtt
set_option maxRecDepth 100000 in
theorem v_M_isLetter : ∀ q ∈ tb_M_isLetter, xSd (0, 0) x0 xCl "NameMoverModel" ws_M_isLetter prog_11_method_6_code 1 (some .boolean) rm_M_isLetter q :=
  xval (s_iload_n (f := 0) (by decide +kernel) rfl) (
  xval (s_bipush (z := 97) (by decide +kernel) (by decide)) (
  xval (s_iclt (z := 9) (by decide +kernel) (by decide)) (
  xval (s_iload_n (f := 0) (by decide +kernel) rfl) (
  xval (s_bipush (z := 122) (by decide +kernel) (by decide)) (
  xval (s_icle (z := 15) (by decide +kernel) (by decide)) (
  xval (s_iload_n (f := 0) (by decide +kernel) rfl) (
  xval (s_bipush (z := 65) (by decide +kernel) (by decide)) (
  xval (s_iclt (z := 13) (by decide +kernel) (by decide)) (
  xval (s_iload_n (f := 0) (by decide +kernel) rfl) (
  xval (s_bipush (z := 90) (by decide +kernel) (by decide)) (
  xval (s_icgt (z := 7) (by decide +kernel) (by decide)) (
  xval (s_iconst (z := 1) (by decide +kernel) (by decide)) (
  xval (s_goto (z := 4) (by decide +kernel) (by decide)) (
  xval (s_iconst (z := 0) (by decide +kernel) (by decide)) (
  xval (s_zret (by decide +kernel)) (
  xval_nil))))))))))))))))
theorem c_M_isLetter : xMet xCl y_M_isLetter ws_M_isLetter rm_M_isLetter (xRun tb_M_isLetter 1) := xMet.of (by decide) rfl v_M_isLetter
def tb_M_isDigit : xT := [(0, o_iload 0 1), (1, o_i 48 2), (3, o_ic (fun a b => a < b) 16), (6, o_iload 0 1), (7, o_i 57 2), (9, o_ic (fun a b => b < a) 16), (12, o_i 1 1), (13, o_goto 17), (16, o_i 0 1), (17, o_zret)]
abbrev y_M_isDigit : MethodName := ⟨"NameMoverModel", "isDigit", "(I)Z"⟩
abbrev rm_M_isDigit : Room := { frames := 0, cells := 0, slots := 0, locals := 0 }
abbrev ws_M_isDigit : List Cond := Cond.code y_M_isDigit prog_11_method_7_code 1 (some .boolean) :: xtt
set_option maxRecDepth 100000 in
theorem v_M_isDigit : ∀ q ∈ tb_M_isDigit, xSd (0, 0) x0 xCl "NameMoverModel" ws_M_isDigit prog_11_method_7_code 1 (some .boolean) rm_M_isDigit q :=
  xval (s_iload_n (f := 0) (by decide +kernel) rfl) (
  xval (s_bipush (z := 48) (by decide +kernel) (by decide)) (
  xval (s_iclt (z := 13) (by decide +kernel) (by decide)) (
  xval (s_iload_n (f := 0) (by decide +kernel) rfl) (
  xval (s_bipush (z := 57) (by decide +kernel) (by decide)) (
  xval (s_icgt (z := 7) (by decide +kernel) (by decide)) (
  xval (s_iconst (z := 1) (by decide +kernel) (by decide)) (
  xval (s_goto (z := 4) (by decide +kernel) (by decide)) (
  xval (s_iconst (z := 0) (by decide +kernel) (by decide)) (
  xval (s_zret (by decide +kernel)) (
  xval_nil))))))))))
theorem c_M_isDigit : xMet xCl y_M_isDigit ws_M_isDigit rm_M_isDigit (xRun tb_M_isDigit 1) := xMet.of (by decide) rfl v_M_isDigit
def tb_M_isName : xT := [(0, o_lload 0 1), (1, o_call (xRun tb_M_length 3) 1 0 0), (4, o_istore 3 1), (5, o_lload 0 1), (6, o_call (xRun tb_M_isText 5) 1 0 0), (9, o_if (fun a => a = 0) 20), (12, o_iload 3 1), (13, o_if (fun a => a ≤ 0) 20), (16, o_i 1 1), (17, o_goto 21), (20, o_i 0 1), (21, o_istore 4 2), (23, o_i 1 1), (24, o_istore 5 2), (26, o_i 0 1), (27, o_istore 6 2), (29, o_iload 6 2), (31, o_iload 3 1), (32, o_ic (fun a b => b ≤ a) 119), (35, o_lload 0 1), (36, o_iload 6 2), (38, o_call (xRun tb_M_charAt 3) 2 0 0), (41, o_istore 7 2), (43, o_iload 7 2), (45, o_i 47 2), (47, o_icn (fun a b => a = b) 77), (50, o_iload 4 2), (52, o_if (fun a => a = 0) 68), (55, o_iload 5 2), (57, o_ifn (fun a => a = 0) 68), (60, o_iload 2 1), (61, o_ifn (fun a => a = 0) 68), (64, o_i 1 1), (65, o_goto 69), (68, o_i 0 1), (69, o_istore 4 2), (71, o_i 1 1), (72, o_istore 5 2), (74, o_goto 113), (77, o_iload 4 2), (79, o_if (fun a => a = 0) 107), (82, o_iload 7 2), (84, o_call (xRun tb_M_isLetter 1) 1 0 0), (87, o_ifn (fun a => a = 0) 103), (90, o_iload 7 2), (92, o_call (xRun tb_M_isDigit 1) 1 0 0), (95, o_if (fun a => a = 0) 107), (98, o_iload 5 2), (100, o_ifn (fun a => a = 0) 107), (103, o_i 1 1), (104, o_goto 108), (107, o_i 0 1), (108, o_istore 4 2), (110, o_i 0 1), (111, o_istore 5 2), (113, o_iinc 6 1), (116, o_goto 29), (119, o_iload 4 2), (121, o_if (fun a => a = 0) 133), (124, o_iload 5 2), (126, o_ifn (fun a => a = 0) 133), (129, o_i 1 1), (130, o_goto 134), (133, o_i 0 1), (134, o_zret)]
abbrev y_M_isName : MethodName := ⟨"NameMoverModel", "isName", "(JZ)Z"⟩
abbrev rm_M_isName : Room := { frames := 3, cells := 0, slots := 0, locals := 68 }
abbrev ws_M_isName : List Cond := Cond.code y_M_isName prog_11_method_8_code 8 (some .boolean) :: xtt
set_option maxRecDepth 100000 in
theorem v_M_isName : ∀ q ∈ tb_M_isName, xSd (0, 0) x0 xCl "NameMoverModel" ws_M_isName prog_11_method_8_code 8 (some .boolean) rm_M_isName q :=
  xval (s_lload_n (f := 0) (by decide +kernel) rfl) (
  xval (s_callS (i := 70) c_M_length (by decide +kernel) rfl (xtt_good tw_849) (tc tw_847) (tc tw_848) (tc tw_6) ⟨by decide, by decide, by decide +kernel⟩ ⟨by decide, by decide, rfl, rfl, by decide, by decide⟩ x0_e) (
  xval (s_istore_n (f := 3) (by decide +kernel) rfl (by decide)) (
  xval (s_lload_n (f := 0) (by decide +kernel) rfl) (
  xval (s_callS (i := 74) c_M_isText (by decide +kernel) rfl (xtt_good tw_856) (tc tw_854) (tc tw_855) (tc tw_6) ⟨by decide, by decide, by decide +kernel⟩ ⟨by decide, by decide, rfl, rfl, by decide, by decide⟩ x0_e) (
  xval (s_ifeq (z := 11) (by decide +kernel) (by decide)) (
  xval (s_iload_n (f := 3) (by decide +kernel) rfl) (
  xval (s_ifle (z := 7) (by decide +kernel) (by decide)) (
  xval (s_iconst (z := 1) (by decide +kernel) (by decide)) (
  xval (s_goto (z := 4) (by decide +kernel) (by decide)) (
  xval (s_iconst (z := 0) (by decide +kernel) (by decide)) (
  xval (s_istore (by decide +kernel) (by decide)) (
  xval (s_iconst (z := 1) (by decide +kernel) (by decide)) (
  xval (s_istore (by decide +kernel) (by decide)) (
  xval (s_iconst (z := 0) (by decide +kernel) (by decide)) (
  xval (s_istore (by decide +kernel) (by decide)) (
  xval (s_iload (by decide +kernel)) (
  xval (s_iload_n (f := 3) (by decide +kernel) rfl) (
  xval (s_icge (z := 87) (by decide +kernel) (by decide)) (
  xval (s_lload_n (f := 0) (by decide +kernel) rfl) (
  xval (s_iload (by decide +kernel)) (
  xval (s_callS (i := 66) c_M_charAt (by decide +kernel) rfl (xtt_good tw_852) (tc tw_850) (tc tw_851) (tc tw_6) ⟨by decide, by decide, by decide +kernel⟩ ⟨by decide, by decide, rfl, rfl, by decide, by decide⟩ x0_e) (
  xval (s_istore (by decide +kernel) (by decide)) (
  xval (s_iload (by decide +kernel)) (
  xval (s_bipush (z := 47) (by decide +kernel) (by decide)) (
  xval (s_icne (z := 30) (by decide +kernel) (by decide)) (
  xval (s_iload (by decide +kernel)) (
  xval (s_ifeq (z := 16) (by decide +kernel) (by decide)) (
  xval (s_iload (by decide +kernel)) (
  xval (s_ifne (z := 11) (by decide +kernel) (by decide)) (
  xval (s_iload_n (f := 2) (by decide +kernel) rfl) (
  xval (s_ifne (z := 7) (by decide +kernel) (by decide)) (
  xval (s_iconst (z := 1) (by decide +kernel) (by decide)) (
  xval (s_goto (z := 4) (by decide +kernel) (by decide)) (
  xval (s_iconst (z := 0) (by decide +kernel) (by decide)) (
  xval (s_istore (by decide +kernel) (by decide)) (
  xval (s_iconst (z := 1) (by decide +kernel) (by decide)) (
  xval (s_istore (by decide +kernel) (by decide)) (
  xval (s_goto (z := 39) (by decide +kernel) (by decide)) (
  xval (s_iload (by decide +kernel)) (
  xval (s_ifeq (z := 28) (by decide +kernel) (by decide)) (
  xval (s_iload (by decide +kernel)) (
  xval (s_callS (i := 78) c_M_isLetter (by decide +kernel) rfl (xtt_good tw_859) (tc tw_857) (tc tw_858) (tc tw_6) ⟨by decide, by decide, by decide +kernel⟩ ⟨by decide, by decide, rfl, rfl, by decide, by decide⟩ x0_e) (
  xval (s_ifne (z := 16) (by decide +kernel) (by decide)) (
  xval (s_iload (by decide +kernel)) (
  xval (s_callS (i := 82) c_M_isDigit (by decide +kernel) rfl (xtt_good tw_862) (tc tw_860) (tc tw_861) (tc tw_6) ⟨by decide, by decide, by decide +kernel⟩ ⟨by decide, by decide, rfl, rfl, by decide, by decide⟩ x0_e) (
  xval (s_ifeq (z := 12) (by decide +kernel) (by decide)) (
  xval (s_iload (by decide +kernel)) (
  xval (s_ifne (z := 7) (by decide +kernel) (by decide)) (
  xval (s_iconst (z := 1) (by decide +kernel) (by decide)) (
  xval (s_goto (z := 4) (by decide +kernel) (by decide)) (
  xval (s_iconst (z := 0) (by decide +kernel) (by decide)) (
  xval (s_istore (by decide +kernel) (by decide)) (
  xval (s_iconst (z := 0) (by decide +kernel) (by decide)) (
  xval (s_istore (by decide +kernel) (by decide)) (
  xval (s_iinc (z := 1) (by decide +kernel) (by decide) (by decide)) (
  xval (s_goto (z := (-87)) (by decide +kernel) (by decide)) (
  xval (s_iload (by decide +kernel)) (
  xval (s_ifeq (z := 12) (by decide +kernel) (by decide)) (
  xval (s_iload (by decide +kernel)) (
  xval (s_ifne (z := 7) (by decide +kernel) (by decide)) (
  xval (s_iconst (z := 1) (by decide +kernel) (by decide)) (
  xval (s_goto (z := 4) (by decide +kernel) (by decide)) (
  xval (s_iconst (z := 0) (by decide +kernel) (by decide)) (
  xval (s_zret (by decide +kernel)) (
  xval_nil)))))))))))))))))))))))))))))))))))))))))))))))))))))))))))))))))
theorem c_M_isName : xMet xCl y_M_isName ws_M_isName rm_M_isName (xRun tb_M_isName 8) := xMet.of (by decide) rfl v_M_isName
def tb_M_lastPart : xT := [(0, o_i 0 1), (1, o_istore 2 1), (2, o_i 0 1), (3, o_istore 3 1), (4, o_iload 3 1), (5, o_i 8 2), (7, o_ic (fun a b => b ≤ a) 34), (10, o_lload 0 1), (11, o_iload 3 1), (12, o_call (xRun tb_M_charAt 3) 2 0 0), (15, o_i 47 2), (17, o_icn (fun a b => a = b) 26), (20, o_iload 3 1), (21, o_i 1 1), (22, o_ii (fun a b => a + b)), (23, o_goto 27), (26, o_iload 2 1), (27, o_istore 2 1), (28, o_iinc 3 1), (31, o_goto 4), (34, o_iload 2 1), (35, o_iret)]
abbrev y_M_lastPart : MethodName := ⟨"NameMoverModel", "lastPart", "(J)I"⟩
abbrev rm_M_lastPart : Room := { frames := 1, cells := 0, slots := 0, locals := 22 }
abbrev ws_M_lastPart : List Cond := Cond.code y_M_lastPart prog_11_method_9_code 4 (some .int) :: xtt
set_option maxRecDepth 100000 in
theorem v_M_lastPart : ∀ q ∈ tb_M_lastPart, xSd (0, 0) x0 xCl "NameMoverModel" ws_M_lastPart prog_11_method_9_code 4 (some .int) rm_M_lastPart q :=
  xval (s_iconst (z := 0) (by decide +kernel) (by decide)) (
  xval (s_istore_n (f := 2) (by decide +kernel) rfl (by decide)) (
  xval (s_iconst (z := 0) (by decide +kernel) (by decide)) (
  xval (s_istore_n (f := 3) (by decide +kernel) rfl (by decide)) (
  xval (s_iload_n (f := 3) (by decide +kernel) rfl) (
  xval (s_bipush (z := 8) (by decide +kernel) (by decide)) (
  xval (s_icge (z := 27) (by decide +kernel) (by decide)) (
  xval (s_lload_n (f := 0) (by decide +kernel) rfl) (
  xval (s_iload_n (f := 3) (by decide +kernel) rfl) (
  xval (s_callS (i := 66) c_M_charAt (by decide +kernel) rfl (xtt_good tw_852) (tc tw_850) (tc tw_851) (tc tw_6) ⟨by decide, by decide, by decide +kernel⟩ ⟨by decide, by decide, rfl, rfl, by decide, by decide⟩ x0_e) (
  xval (s_bipush (z := 47) (by decide +kernel) (by decide)) (
  xval (s_icne (z := 9) (by decide +kernel) (by decide)) (
  xval (s_iload_n (f := 3) (by decide +kernel) rfl) (
  xval (s_iconst (z := 1) (by decide +kernel) (by decide)) (
  xval (s_iadd (by decide +kernel)) (
  xval (s_goto (z := 4) (by decide +kernel) (by decide)) (
  xval (s_iload_n (f := 2) (by decide +kernel) rfl) (
  xval (s_istore_n (f := 2) (by decide +kernel) rfl (by decide)) (
  xval (s_iinc (z := 1) (by decide +kernel) (by decide) (by decide)) (
  xval (s_goto (z := (-27)) (by decide +kernel) (by decide)) (
  xval (s_iload_n (f := 2) (by decide +kernel) rfl) (
  xval (s_iret (by decide +kernel)) (
  xval_nil))))))))))))))))))))))
theorem c_M_lastPart : xMet xCl y_M_lastPart ws_M_lastPart rm_M_lastPart (xRun tb_M_lastPart 4) := xMet.of (by decide) rfl v_M_lastPart
def tb_M_front : xT := [(0, o_l 0 1), (1, o_lstore 3 1), (2, o_i 0 1), (3, o_istore 5 2), (5, o_iload 5 2), (7, o_iload 2 1), (8, o_ic (fun a b => b ≤ a) 31), (11, o_lload 3 1), (12, o_lload 0 1), (13, o_l 255 3), (16, o_i 8 2), (18, o_iload 5 2), (20, o_ii (fun a b => a * b)), (21, o_li xshl), (22, o_ll (fun a b => a &&& b)), (23, o_ll (fun a b => a ||| b)), (24, o_lstore 3 1), (25, o_iinc 5 1), (28, o_goto 5), (31, o_lload 3 1), (32, o_lret)]
abbrev y_M_front : MethodName := ⟨"NameMoverModel", "front", "(JI)J"⟩
abbrev rm_M_front : Room := { frames := 0, cells := 0, slots := 0, locals := 0 }
abbrev ws_M_front : List Cond := Cond.code y_M_front prog_11_method_10_code 6 (some .long) :: xtt
set_option maxRecDepth 100000 in
theorem v_M_front : ∀ q ∈ tb_M_front, xSd (0, 0) x0 xCl "NameMoverModel" ws_M_front prog_11_method_10_code 6 (some .long) rm_M_front q :=
  xval (s_lconst (z := 0) (by decide +kernel) (by decide)) (
  xval (s_lstore_n (f := 3) (by decide +kernel) rfl (by decide)) (
  xval (s_iconst (z := 0) (by decide +kernel) (by decide)) (
  xval (s_istore (by decide +kernel) (by decide)) (
  xval (s_iload (by decide +kernel)) (
  xval (s_iload_n (f := 2) (by decide +kernel) rfl) (
  xval (s_icge (z := 23) (by decide +kernel) (by decide)) (
  xval (s_lload_n (f := 3) (by decide +kernel) rfl) (
  xval (s_lload_n (f := 0) (by decide +kernel) rfl) (
  xval (s_ldc2 (i := 64) (by decide +kernel) (tc tw_853)) (
  xval (s_bipush (z := 8) (by decide +kernel) (by decide)) (
  xval (s_iload (by decide +kernel)) (
  xval (s_imul (by decide +kernel)) (
  xval (s_lshl (by decide +kernel)) (
  xval (s_land (by decide +kernel)) (
  xval (s_lor (by decide +kernel)) (
  xval (s_lstore_n (f := 3) (by decide +kernel) rfl (by decide)) (
  xval (s_iinc (z := 1) (by decide +kernel) (by decide) (by decide)) (
  xval (s_goto (z := (-23)) (by decide +kernel) (by decide)) (
  xval (s_lload_n (f := 3) (by decide +kernel) rfl) (
  xval (s_lret (by decide +kernel)) (
  xval_nil)))))))))))))))))))))
theorem c_M_front : xMet xCl y_M_front ws_M_front rm_M_front (xRun tb_M_front 6) := xMet.of (by decide) rfl v_M_front
def tb_M_packageOf : xT := [(0, o_lload 0 1), (1, o_call (xRun tb_M_lastPart 4) 1 0 0), (4, o_istore 2 1), (5, o_lload 0 1), (6, o_iload 2 1), (7, o_i 1 1), (8, o_ic (fun a b => b ≤ a) 15), (11, o_i 0 1), (12, o_goto 18), (15, o_iload 2 1), (16, o_i 1 1), (17, o_ii (fun a b => a - b)), (18, o_call (xRun tb_M_front 6) 2 0 0), (21, o_lret)]
abbrev y_M_packageOf : MethodName := ⟨"NameMoverModel", "packageOf", "(J)J"⟩
abbrev rm_M_packageOf : Room := { frames := 2, cells := 0, slots := 0, locals := 45 }
abbrev ws_M_packageOf : List Cond := Cond.code y_M_packageOf prog_11_method_11_code 3 (some .long) :: xtt
set_option maxRecDepth 100000 in
theorem v_M_packageOf : ∀ q ∈ tb_M_packageOf, xSd (0, 0) x0 xCl "NameMoverModel" ws_M_packageOf prog_11_method_11_code 3 (some .long) rm_M_packageOf q :=
  xval (s_lload_n (f := 0) (by decide +kernel) rfl) (
  xval (s_callS (i := 85) c_M_lastPart (by decide +kernel) rfl (xtt_good tw_912) (tc tw_910) (tc tw_911) (tc tw_6) ⟨by decide, by decide, by decide +kernel⟩ ⟨by decide, by decide, rfl, rfl, by decide, by decide⟩ x0_e) (
  xval (s_istore_n (f := 2) (by decide +kernel) rfl (by decide)) (
  xval (s_lload_n (f := 0) (by decide +kernel) rfl) (
  xval (s_iload_n (f := 2) (by decide +kernel) rfl) (
  xval (s_iconst (z := 1) (by decide +kernel) (by decide)) (
  xval (s_icge (z := 7) (by decide +kernel) (by decide)) (
  xval (s_iconst (z := 0) (by decide +kernel) (by decide)) (
  xval (s_goto (z := 6) (by decide +kernel) (by decide)) (
  xval (s_iload_n (f := 2) (by decide +kernel) rfl) (
  xval (s_iconst (z := 1) (by decide +kernel) (by decide)) (
  xval (s_isub (by decide +kernel)) (
  xval (s_callS (i := 88) c_M_front (by decide +kernel) rfl (xtt_good tw_915) (tc tw_913) (tc tw_914) (tc tw_6) ⟨by decide, by decide, by decide +kernel⟩ ⟨by decide, by decide, rfl, rfl, by decide, by decide⟩ x0_e) (
  xval (s_lret (by decide +kernel)) (
  xval_nil))))))))))))))
theorem c_M_packageOf : xMet xCl y_M_packageOf ws_M_packageOf rm_M_packageOf (xRun tb_M_packageOf 3) := xMet.of (by decide) rfl v_M_packageOf
def tb_M_type : xT := [(0, o_aload 0 1), (1, o_getf 5 22), (4, o_i 8 2), (6, o_ic (fun a b => b ≤ a) 35), (9, o_lload 1 1), (10, o_aload 0 1), (11, o_getf 5 22), (14, o_call (xRun tb_M_charAt 3) 2 0 0), (17, o_i 91 2), (19, o_icn (fun a b => a = b) 35), (22, o_aload 0 1), (23, o_dup), (24, o_getf 5 22), (27, o_i 1 1), (28, o_ii (fun a b => a + b)), (29, o_puti 5 22), (32, o_goto 0), (35, o_aload 0 1), (36, o_getf 5 22), (39, o_i 8 2), (41, o_ic (fun a b => a < b) 46), (44, o_i 0 1), (45, o_zret), (46, o_lload 1 1), (47, o_aload 0 1), (48, o_getf 5 22), (51, o_call (xRun tb_M_charAt 3) 2 0 0), (54, o_istore 4 2), (56, o_aload 0 1), (57, o_dup), (58, o_getf 5 22), (61, o_i 1 1), (62, o_ii (fun a b => a + b)), (63, o_puti 5 22), (66, o_iload 4 2), (68, o_i 73 2), (70, o_ic (fun a b => a = b) 103), (73, o_iload 4 2), (75, o_i 74 2), (77, o_ic (fun a b => a = b) 103), (80, o_iload 4 2), (82, o_i 90 2), (84, o_ic (fun a b => a = b) 103), (87, o_iload 4 2), (89, o_i 48 2), (91, o_ic (fun a b => a < b) 107), (94, o_iload 4 2), (96, o_i 48 2), (98, o_iload 3 1), (99, o_ii (fun a b => a + b)), (100, o_ic (fun a b => b ≤ a) 107), (103, o_i 1 1), (104, o_goto 108), (107, o_i 0 1), (108, o_zret)]
abbrev y_M_type : MethodName := ⟨"NameMoverModel", "type", "(JI)Z"⟩
abbrev rm_M_type : Room := { frames := 1, cells := 0, slots := 0, locals := 22 }
abbrev ws_M_type : List Cond := Cond.code y_M_type prog_11_method_12_code 5 (some .boolean) :: xtt
set_option maxRecDepth 100000 in
theorem v_M_type : ∀ q ∈ tb_M_type, xSd (0, 0) x0 xCl "NameMoverModel" ws_M_type prog_11_method_12_code 5 (some .boolean) rm_M_type q :=
  xval (s_aload_n (f := 0) (by decide +kernel) rfl) (
  xval (s_getf (i := 92) (by decide +kernel) rfl tin_M (by decide) (tc tw_788)) (
  xval (s_bipush (z := 8) (by decide +kernel) (by decide)) (
  xval (s_icge (z := 29) (by decide +kernel) (by decide)) (
  xval (s_lload_n (f := 1) (by decide +kernel) rfl) (
  xval (s_aload_n (f := 0) (by decide +kernel) rfl) (
  xval (s_getf (i := 92) (by decide +kernel) rfl tin_M (by decide) (tc tw_788)) (
  xval (s_callS (i := 66) c_M_charAt (by decide +kernel) rfl (xtt_good tw_852) (tc tw_850) (tc tw_851) (tc tw_6) ⟨by decide, by decide, by decide +kernel⟩ ⟨by decide, by decide, rfl, rfl, by decide, by decide⟩ x0_e) (
  xval (s_bipush (z := 91) (by decide +kernel) (by decide)) (
  xval (s_icne (z := 16) (by decide +kernel) (by decide)) (
  xval (s_aload_n (f := 0) (by decide +kernel) rfl) (
  xval (s_dup (by decide +kernel)) (
  xval (s_getf (i := 92) (by decide +kernel) rfl tin_M (by decide) (tc tw_788)) (
  xval (s_iconst (z := 1) (by decide +kernel) (by decide)) (
  xval (s_iadd (by decide +kernel)) (
  xval (s_puti (i := 92) (by decide +kernel) rfl tin_M (by decide) (tc tw_788) tM tM_ok nM rfl (by decide +kernel)) (
  xval (s_goto (z := (-32)) (by decide +kernel) (by decide)) (
  xval (s_aload_n (f := 0) (by decide +kernel) rfl) (
  xval (s_getf (i := 92) (by decide +kernel) rfl tin_M (by decide) (tc tw_788)) (
  xval (s_bipush (z := 8) (by decide +kernel) (by decide)) (
  xval (s_iclt (z := 5) (by decide +kernel) (by decide)) (
  xval (s_iconst (z := 0) (by decide +kernel) (by decide)) (
  xval (s_zret (by decide +kernel)) (
  xval (s_lload_n (f := 1) (by decide +kernel) rfl) (
  xval (s_aload_n (f := 0) (by decide +kernel) rfl) (
  xval (s_getf (i := 92) (by decide +kernel) rfl tin_M (by decide) (tc tw_788)) (
  xval (s_callS (i := 66) c_M_charAt (by decide +kernel) rfl (xtt_good tw_852) (tc tw_850) (tc tw_851) (tc tw_6) ⟨by decide, by decide, by decide +kernel⟩ ⟨by decide, by decide, rfl, rfl, by decide, by decide⟩ x0_e) (
  xval (s_istore (by decide +kernel) (by decide)) (
  xval (s_aload_n (f := 0) (by decide +kernel) rfl) (
  xval (s_dup (by decide +kernel)) (
  xval (s_getf (i := 92) (by decide +kernel) rfl tin_M (by decide) (tc tw_788)) (
  xval (s_iconst (z := 1) (by decide +kernel) (by decide)) (
  xval (s_iadd (by decide +kernel)) (
  xval (s_puti (i := 92) (by decide +kernel) rfl tin_M (by decide) (tc tw_788) tM tM_ok nM rfl (by decide +kernel)) (
  xval (s_iload (by decide +kernel)) (
  xval (s_bipush (z := 73) (by decide +kernel) (by decide)) (
  xval (s_iceq (z := 33) (by decide +kernel) (by decide)) (
  xval (s_iload (by decide +kernel)) (
  xval (s_bipush (z := 74) (by decide +kernel) (by decide)) (
  xval (s_iceq (z := 26) (by decide +kernel) (by decide)) (
  xval (s_iload (by decide +kernel)) (
  xval (s_bipush (z := 90) (by decide +kernel) (by decide)) (
  xval (s_iceq (z := 19) (by decide +kernel) (by decide)) (
  xval (s_iload (by decide +kernel)) (
  xval (s_bipush (z := 48) (by decide +kernel) (by decide)) (
  xval (s_iclt (z := 16) (by decide +kernel) (by decide)) (
  xval (s_iload (by decide +kernel)) (
  xval (s_bipush (z := 48) (by decide +kernel) (by decide)) (
  xval (s_iload_n (f := 3) (by decide +kernel) rfl) (
  xval (s_iadd (by decide +kernel)) (
  xval (s_icge (z := 7) (by decide +kernel) (by decide)) (
  xval (s_iconst (z := 1) (by decide +kernel) (by decide)) (
  xval (s_goto (z := 4) (by decide +kernel) (by decide)) (
  xval (s_iconst (z := 0) (by decide +kernel) (by decide)) (
  xval (s_zret (by decide +kernel)) (
  xval_nil)))))))))))))))))))))))))))))))))))))))))))))))))))))))
theorem c_M_type : xMet xCl y_M_type ws_M_type rm_M_type (xRun tb_M_type 5) := xMet.of (by decide) rfl v_M_type
