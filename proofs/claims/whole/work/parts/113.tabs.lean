def tb_M_load : xT := [(0, o_aload 0 1), (1, o_aload 0 1), (2, o_callV (xRun tb_M_moves 4) 5 0 0 0), (5, o_if (fun a => 0 < a) 17), (8, o_aload 0 1), (9, o_getf 5 1), (12, o_i 8 2), (14, o_icn (fun a b => a = b) 21), (17, o_i 1 1), (18, o_goto 33), (21, o_aload 0 1), (22, o_callV (xRun tb_M_readClass 8) 5 0 0 0), (25, o_if (fun a => a = 0) 32), (28, o_i 0 1), (29, o_goto 33), (32, o_i 2 1), (33, o_puti 5 0), (36, o_aload 0 1), (37, o_getf 5 0), (40, o_if (fun a => a ≤ 0) 45), (43, o_i 0 1), (44, o_iret), (45, o_aload 0 1), (46, o_aload 0 1), (47, o_getf 5 1), (50, o_callV (xRun tb_M_make 4) 5 1 0 0), (53, o_aload 0 1), (54, o_getf 5 15), (57, o_aload 0 1), (58, o_getf 5 13), (61, o_icn (fun a b => a = b) 68), (64, o_i 1 1), (65, o_goto 69), (68, o_i 0 1), (69, o_istore 1 1), (70, o_i 0 1), (71, o_istore 2 1), (72, o_iload 2 1), (73, o_aload 0 1), (74, o_getf 5 13), (77, o_ic (fun a b => b ≤ a) 111), (80, o_iload 1 1), (81, o_if (fun a => a = 0) 111), (84, o_aload 0 1), (85, o_getf 5 14), (88, o_iload 2 1), (89, o_iaload), (90, o_aload 0 1), (91, o_getf 5 12), (94, o_iload 2 1), (95, o_iaload), (96, o_icn (fun a b => a = b) 103), (99, o_i 1 1), (100, o_goto 104), (103, o_i 0 1), (104, o_istore 1 1), (105, o_iinc 2 1), (108, o_goto 72), (111, o_iload 1 1), (112, o_ifn (fun a => a = 0) 122), (115, o_aload 0 1), (116, o_i 2 1), (117, o_puti 5 0), (120, o_i 0 1), (121, o_iret), (122, o_aload 0 1), (123, o_dup), (124, o_getf 5 1), (127, o_i 1 1), (128, o_ii (fun a b => a + b)), (129, o_puti 5 1), (132, o_aload 0 1), (133, o_getf 5 1), (136, o_i 1 1), (137, o_ii (fun a b => a - b)), (138, o_iret)]
abbrev y_M_load : MethodName := ⟨"NameMoverModel", "load", "()I"⟩
abbrev rm_M_load : Room := { frames := 7, cells := 0, slots := 0, locals := 170 }
abbrev ws_M_load : List Cond := Cond.code y_M_load prog_11_method_60_code 3 (some .int) :: xtt
set_option maxRecDepth 100000 in
theorem v_M_load : ∀ q ∈ tb_M_load, xSd (0, 0) x0 xCl "NameMoverModel" ws_M_load prog_11_method_60_code 3 (some .int) rm_M_load q :=
  xval (s_aload_n (f := 0) (by decide +kernel) rfl) (
  xval (s_aload_n (f := 0) (by decide +kernel) rfl) (
  xval (s_callV (i := 113) c_M_moves (by decide +kernel) rfl (xtt_good tw_870) rfl (tc tw_867) (tc tw_869) (tc ts_29) (tc tw_6) ⟨by decide, by decide, by decide +kernel⟩ ⟨by decide, by decide, rfl, rfl, by decide, by decide⟩ x0_e) (
  xval (s_ifgt (z := 12) (by decide +kernel) (by decide)) (
  xval (s_aload_n (f := 0) (by decide +kernel) rfl) (
  xval (s_getf (i := 99) (by decide +kernel) rfl tin_M (by decide) (tc tw_767)) (
  xval (s_bipush (z := 8) (by decide +kernel) (by decide)) (
  xval (s_icne (z := 7) (by decide +kernel) (by decide)) (
  xval (s_iconst (z := 1) (by decide +kernel) (by decide)) (
  xval (s_goto (z := 15) (by decide +kernel) (by decide)) (
  xval (s_aload_n (f := 0) (by decide +kernel) rfl) (
  xval (s_callV (i := 230) c_M_readClass (by decide +kernel) rfl (xtt_good tw_1036) rfl (tc tw_1033) (tc tw_1035) (tc ts_52) (tc tw_6) ⟨by decide, by decide, by decide +kernel⟩ ⟨by decide, by decide, rfl, rfl, by decide, by decide⟩ x0_e) (
  xval (s_ifeq (z := 7) (by decide +kernel) (by decide)) (
  xval (s_iconst (z := 0) (by decide +kernel) (by decide)) (
  xval (s_goto (z := 4) (by decide +kernel) (by decide)) (
  xval (s_iconst (z := 2) (by decide +kernel) (by decide)) (
  xval (s_puti (i := 60) (by decide +kernel) rfl tin_M (by decide) (tc tw_766) tM tM_ok nM rfl (by decide +kernel)) (
  xval (s_aload_n (f := 0) (by decide +kernel) rfl) (
  xval (s_getf (i := 60) (by decide +kernel) rfl tin_M (by decide) (tc tw_766)) (
  xval (s_ifle (z := 5) (by decide +kernel) (by decide)) (
  xval (s_iconst (z := 0) (by decide +kernel) (by decide)) (
  xval (s_iret (by decide +kernel)) (
  xval (s_aload_n (f := 0) (by decide +kernel) rfl) (
  xval (s_aload_n (f := 0) (by decide +kernel) rfl) (
  xval (s_getf (i := 99) (by decide +kernel) rfl tin_M (by decide) (tc tw_767)) (
  xval (s_callV (i := 200) c_M_make (by decide +kernel) rfl (xtt_good tw_1000) rfl (tc tw_997) (tc tw_999) (tc ts_46) (tc tw_6) ⟨by decide, by decide, by decide +kernel⟩ ⟨by decide, by decide, rfl, rfl, by decide, by decide⟩ x0_e) (
  xval (s_aload_n (f := 0) (by decide +kernel) rfl) (
  xval (s_getf (i := 187) (by decide +kernel) rfl tin_M (by decide) (tc tw_781)) (
  xval (s_aload_n (f := 0) (by decide +kernel) rfl) (
  xval (s_getf (i := 203) (by decide +kernel) rfl tin_M (by decide) (tc tw_779)) (
  xval (s_icne (z := 7) (by decide +kernel) (by decide)) (
  xval (s_iconst (z := 1) (by decide +kernel) (by decide)) (
  xval (s_goto (z := 4) (by decide +kernel) (by decide)) (
  xval (s_iconst (z := 0) (by decide +kernel) (by decide)) (
  xval (s_istore_n (f := 1) (by decide +kernel) rfl (by decide)) (
  xval (s_iconst (z := 0) (by decide +kernel) (by decide)) (
  xval (s_istore_n (f := 2) (by decide +kernel) rfl (by decide)) (
  xval (s_iload_n (f := 2) (by decide +kernel) rfl) (
  xval (s_aload_n (f := 0) (by decide +kernel) rfl) (
  xval (s_getf (i := 203) (by decide +kernel) rfl tin_M (by decide) (tc tw_779)) (
  xval (s_icge (z := 34) (by decide +kernel) (by decide)) (
  xval (s_iload_n (f := 1) (by decide +kernel) rfl) (
  xval (s_ifeq (z := 30) (by decide +kernel) (by decide)) (
  xval (s_aload_n (f := 0) (by decide +kernel) rfl) (
  xval (s_getf (i := 45) (by decide +kernel) rfl tin_M (by decide) (tc tw_780)) (
  xval (s_iload_n (f := 2) (by decide +kernel) rfl) (
  xval (s_iaload (by decide +kernel)) (
  xval (s_aload_n (f := 0) (by decide +kernel) rfl) (
  xval (s_getf (i := 42) (by decide +kernel) rfl tin_M (by decide) (tc tw_778)) (
  xval (s_iload_n (f := 2) (by decide +kernel) rfl) (
  xval (s_iaload (by decide +kernel)) (
  xval (s_icne (z := 7) (by decide +kernel) (by decide)) (
  xval (s_iconst (z := 1) (by decide +kernel) (by decide)) (
  xval (s_goto (z := 4) (by decide +kernel) (by decide)) (
  xval (s_iconst (z := 0) (by decide +kernel) (by decide)) (
  xval (s_istore_n (f := 1) (by decide +kernel) rfl (by decide)) (
  xval (s_iinc (z := 1) (by decide +kernel) (by decide) (by decide)) (
  xval (s_goto (z := (-36)) (by decide +kernel) (by decide)) (
  xval (s_iload_n (f := 1) (by decide +kernel) rfl) (
  xval (s_ifne (z := 10) (by decide +kernel) (by decide)) (
  xval (s_aload_n (f := 0) (by decide +kernel) rfl) (
  xval (s_iconst (z := 2) (by decide +kernel) (by decide)) (
  xval (s_puti (i := 60) (by decide +kernel) rfl tin_M (by decide) (tc tw_766) tM tM_ok nM rfl (by decide +kernel)) (
  xval (s_iconst (z := 0) (by decide +kernel) (by decide)) (
  xval (s_iret (by decide +kernel)) (
  xval (s_aload_n (f := 0) (by decide +kernel) rfl) (
  xval (s_dup (by decide +kernel)) (
  xval (s_getf (i := 99) (by decide +kernel) rfl tin_M (by decide) (tc tw_767)) (
  xval (s_iconst (z := 1) (by decide +kernel) (by decide)) (
  xval (s_iadd (by decide +kernel)) (
  xval (s_puti (i := 99) (by decide +kernel) rfl tin_M (by decide) (tc tw_767) tM tM_ok nM rfl (by decide +kernel)) (
  xval (s_aload_n (f := 0) (by decide +kernel) rfl) (
  xval (s_getf (i := 99) (by decide +kernel) rfl tin_M (by decide) (tc tw_767)) (
  xval (s_iconst (z := 1) (by decide +kernel) (by decide)) (
  xval (s_isub (by decide +kernel)) (
  xval (s_iret (by decide +kernel)) (
  xval_nil))))))))))))))))))))))))))))))))))))))))))))))))))))))))))))))))))))))))))))
theorem c_M_load : xMet xCl y_M_load ws_M_load rm_M_load (xRun tb_M_load 3) := xMet.of (by decide) rfl v_M_load
