def tb_N_find : xT := [(0, o_aload 0 1), (1, o_iload 1 1), (2, o_callV (xRun tb_N_requireClass 2) 0 1 1 1), (5, o_aload 0 1), (6, o_getf 0 0), (9, o_iload 1 1), (10, o_lload 2 1), (11, o_lload 4 2), (13, o_callV (xRun tb_S_inheritedMember 8) 1 3 1 0), (16, o_istore 6 2), (18, o_iload 6 2), (20, o_i (-1) 1), (21, o_icn (fun a b => a = b) 34), (24, o_throw 3 1), (34, o_iload 6 2), (36, o_iret)]
abbrev y_N_find : MethodName := ⟨"NameMover", "find", "(IJJ)I"⟩
abbrev rm_N_find : Room := { frames := 7, cells := 1, slots := 6, locals := 103 }
abbrev ws_N_find : List Cond := Cond.code y_N_find prog_1_method_13_code 7 (some .int) :: xtt
set_option maxRecDepth 100000 in
theorem v_N_find : ∀ q ∈ tb_N_find, xSd (0, 0) x0 xCl "NameMover" ws_N_find prog_1_method_13_code 7 (some .int) rm_N_find q :=
  xval (s_aload_n (f := 0) (by decide +kernel) rfl) (
  xval (s_iload_n (f := 1) (by decide +kernel) rfl) (
  xval (s_callV (i := 95) c_N_requireClass (by decide +kernel) rfl (xtt_good tw_412) rfl (tc tw_409) (tc tw_411) (tc ts_1) (tc tw_1) ⟨by decide, by decide, by decide +kernel⟩ ⟨by decide, by decide, rfl, rfl, by decide, by decide⟩ x0_e) (
  xval (s_aload_n (f := 0) (by decide +kernel) rfl) (
  xval (s_getf (i := 10) (by decide +kernel) rfl tin_N (by decide) (tc tw_150)) (
  xval (s_iload_n (f := 1) (by decide +kernel) rfl) (
  xval (s_lload_n (f := 2) (by decide +kernel) rfl) (
  xval (s_lload (by decide +kernel)) (
  xval (s_callV (i := 177) c_S_inheritedMember (by decide +kernel) rfl (xtt_good tw_562) rfl (tc tw_559) (tc tw_560) (tc tw_561) (tc tw_2) ⟨by decide, by decide, by decide +kernel⟩ ⟨by decide, by decide, rfl, rfl, by decide, by decide⟩ x0_e) (
  xval (s_istore (by decide +kernel) (by decide)) (
  xval (s_iload (by decide +kernel)) (
  xval (s_iconst (z := (-1)) (by decide +kernel) (by decide)) (
  xval (s_icne (z := 13) (by decide +kernel) (by decide)) (
  xval (s_throw (i := 181) (ik := 183) (ic := 185) (j := 13) (bs := prog_21_method_4_code) (tx := "no such member") (by decide +kernel) (by decide +kernel) (by decide +kernel) (by decide +kernel) (by decide +kernel) (tc tw_563) (tc tw_564) (tc tw_17) (tc tw_504) (by decide +kernel) (by decide +kernel) (by decide +kernel) (by decide +kernel) (by decide +kernel) (tow_3 (tc tw_572)) ⟨by decide, by decide, by decide, by decide⟩ x0_e) (
  xval (s_iload (by decide +kernel)) (
  xval (s_iret (by decide +kernel)) (
  xval_nil))))))))))))))))
theorem c_N_find : xMet xCl y_N_find ws_N_find rm_N_find (xRun tb_N_find 7) := xMet.of (by decide) rfl v_N_find
def tb_B_cutTo : xT := [(0, o_aload 0 1), (1, o_i 0 1), (2, o_iload 1 1), (3, o_aload 0 1), (4, o_getf 2 1), (7, o_min 0), (10, o_max 0), (13, o_puti 2 1), (16, o_vret)]
abbrev y_B_cutTo : MethodName := ⟨"NameMover$ByteRow", "cutTo", "(I)V"⟩
abbrev rm_B_cutTo : Room := { frames := 1, cells := 0, slots := 0, locals := 21 }
abbrev ws_B_cutTo : List Cond := Cond.code y_B_cutTo prog_2_method_3_code 2 (none) :: xtt
set_option maxRecDepth 100000 in
theorem v_B_cutTo : ∀ q ∈ tb_B_cutTo, xSd (0, 0) x0 xCl "NameMover$ByteRow" ws_B_cutTo prog_2_method_3_code 2 (none) rm_B_cutTo q :=
  xval (s_aload_n (f := 0) (by decide +kernel) rfl) (
  xval (s_iconst (z := 0) (by decide +kernel) (by decide)) (
  xval (s_iload_n (f := 1) (by decide +kernel) rfl) (
  xval (s_aload_n (f := 0) (by decide +kernel) rfl) (
  xval (s_getf (i := 13) (by decide +kernel) rfl tin_B (by decide) (tc tw_97)) (
  xval (s_min (i := 17) (by decide +kernel) (tc tw_597) (tc tw_598) (tc tw_18) (tc tw_599) ⟨by decide, by decide, trivial⟩ ⟨by decide, by decide⟩) (
  xval (s_max (i := 23) (by decide +kernel) (tc tw_600) (tc tw_601) (tc tw_18) (tc tw_602) ⟨by decide, by decide, trivial⟩ ⟨by decide, by decide⟩) (
  xval (s_puti (i := 13) (by decide +kernel) rfl tin_B (by decide) (tc tw_97) tB tB_ok nB rfl (by decide +kernel)) (
  xval (s_vret (by decide +kernel)) (
  xval_nil)))))))))
theorem c_B_cutTo : xMet xCl y_B_cutTo ws_B_cutTo rm_B_cutTo (xRun tb_B_cutTo 2) := xMet.of (by decide) rfl v_B_cutTo
def tb_B_append : xT := [(0, o_aload 0 1), (1, o_getf 2 1), (4, o_i 512 3), (7, o_ic (fun a b => b ≤ a) 30), (10, o_aload 0 1), (11, o_getf 2 0), (14, o_aload 0 1), (15, o_getf 2 1), (18, o_iload 1 1), (19, o_iastore), (20, o_aload 0 1), (21, o_dup), (22, o_getf 2 1), (25, o_i 1 1), (26, o_ii (fun a b => a + b)), (27, o_puti 2 1), (30, o_vret)]
abbrev y_B_append : MethodName := ⟨"NameMover$ByteRow", "append", "(I)V"⟩
abbrev rm_B_append : Room := { frames := 0, cells := 0, slots := 0, locals := 0 }
abbrev ws_B_append : List Cond := Cond.code y_B_append prog_2_method_7_code 2 (none) :: xtt
set_option maxRecDepth 100000 in
theorem v_B_append : ∀ q ∈ tb_B_append, xSd (0, 0) x0 xCl "NameMover$ByteRow" ws_B_append prog_2_method_7_code 2 (none) rm_B_append q :=
  xval (s_aload_n (f := 0) (by decide +kernel) rfl) (
  xval (s_getf (i := 13) (by decide +kernel) rfl tin_B (by decide) (tc tw_97)) (
  xval (s_sipush (z := 512) (by decide +kernel) (by decide)) (
  xval (s_icge (z := 23) (by decide +kernel) (by decide)) (
  xval (s_aload_n (f := 0) (by decide +kernel) rfl) (
  xval (s_getf (i := 9) (by decide +kernel) rfl tin_B (by decide) (tc tw_96)) (
  xval (s_aload_n (f := 0) (by decide +kernel) rfl) (
  xval (s_getf (i := 13) (by decide +kernel) rfl tin_B (by decide) (tc tw_97)) (
  xval (s_iload_n (f := 1) (by decide +kernel) rfl) (
  xval (s_iastore (by decide +kernel)) (
  xval (s_aload_n (f := 0) (by decide +kernel) rfl) (
  xval (s_dup (by decide +kernel)) (
  xval (s_getf (i := 13) (by decide +kernel) rfl tin_B (by decide) (tc tw_97)) (
  xval (s_iconst (z := 1) (by decide +kernel) (by decide)) (
  xval (s_iadd (by decide +kernel)) (
  xval (s_puti (i := 13) (by decide +kernel) rfl tin_B (by decide) (tc tw_97) tB tB_ok nB rfl (by decide +kernel)) (
  xval (s_vret (by decide +kernel)) (
  xval_nil)))))))))))))))))
theorem c_B_append : xMet xCl y_B_append ws_B_append rm_B_append (xRun tb_B_append 2) := xMet.of (by decide) rfl v_B_append
def tb_W_begin : xT := [(0, o_aload 0 1), (1, o_getf 3 1), (4, o_i 0 1), (5, o_callV (xRun tb_B_cutTo 2) 2 1 0 0), (8, o_aload 0 1), (9, o_getf 3 1), (12, o_i 202 3), (15, o_callV (xRun tb_B_append 2) 2 1 0 0), (18, o_aload 0 1), (19, o_getf 3 1), (22, o_i 0 1), (23, o_callV (xRun tb_B_append 2) 2 1 0 0), (26, o_aload 0 1), (27, o_i 0 1), (28, o_puti 3 5), (31, o_aload 0 1), (32, o_i 0 1), (33, o_puti 3 3), (36, o_vret)]
abbrev y_W_begin : MethodName := ⟨"NameMover$ClassWriter", "begin", "()V"⟩
abbrev rm_W_begin : Room := { frames := 2, cells := 0, slots := 0, locals := 42 }
abbrev ws_W_begin : List Cond := Cond.code y_W_begin prog_4_method_3_code 1 (none) :: xtt
set_option maxRecDepth 100000 in
theorem v_W_begin : ∀ q ∈ tb_W_begin, xSd (0, 0) x0 xCl "NameMover$ClassWriter" ws_W_begin prog_4_method_3_code 1 (none) rm_W_begin q :=
  xval (s_aload_n (f := 0) (by decide +kernel) rfl) (
  xval (s_getf (i := 29) (by decide +kernel) rfl tin_W (by decide) (tc tw_110)) (
  xval (s_iconst (z := 0) (by decide +kernel) (by decide)) (
  xval (s_callV (i := 79) c_B_cutTo (by decide +kernel) rfl (xtt_good tw_596) rfl (tc tw_593) (tc tw_594) (tc tw_595) (tc tw_3) ⟨by decide, by decide, by decide +kernel⟩ ⟨by decide, by decide, rfl, rfl, by decide, by decide⟩ x0_e) (
  xval (s_aload_n (f := 0) (by decide +kernel) rfl) (
  xval (s_getf (i := 29) (by decide +kernel) rfl tin_W (by decide) (tc tw_110)) (
  xval (s_sipush (z := 202) (by decide +kernel) (by decide)) (
  xval (s_callV (i := 84) c_B_append (by decide +kernel) rfl (xtt_good tw_606) rfl (tc tw_603) (tc tw_604) (tc tw_605) (tc tw_3) ⟨by decide, by decide, by decide +kernel⟩ ⟨by decide, by decide, rfl, rfl, by decide, by decide⟩ x0_e) (
  xval (s_aload_n (f := 0) (by decide +kernel) rfl) (
  xval (s_getf (i := 29) (by decide +kernel) rfl tin_W (by decide) (tc tw_110)) (
  xval (s_iconst (z := 0) (by decide +kernel) (by decide)) (
  xval (s_callV (i := 84) c_B_append (by decide +kernel) rfl (xtt_good tw_606) rfl (tc tw_603) (tc tw_604) (tc tw_605) (tc tw_3) ⟨by decide, by decide, by decide +kernel⟩ ⟨by decide, by decide, rfl, rfl, by decide, by decide⟩ x0_e) (
  xval (s_aload_n (f := 0) (by decide +kernel) rfl) (
  xval (s_iconst (z := 0) (by decide +kernel) (by decide)) (
  xval (s_puti (i := 22) (by decide +kernel) rfl tin_W (by decide) (tc tw_114) tW tW_ok nW rfl (by decide +kernel)) (
  xval (s_aload_n (f := 0) (by decide +kernel) rfl) (
  xval (s_iconst (z := 0) (by decide +kernel) (by decide)) (
  xval (s_puti (i := 15) (by decide +kernel) rfl tin_W (by decide) (tc tw_112) tW tW_ok nW rfl (by decide +kernel)) (
  xval (s_vret (by decide +kernel)) (
  xval_nil)))))))))))))))))))
theorem c_W_begin : xMet xCl y_W_begin ws_W_begin rm_W_begin (xRun tb_W_begin 1) := xMet.of (by decide) rfl v_W_begin
def tb_B_size : xT := [(0, o_aload 0 1), (1, o_getf 2 1), (4, o_iret)]
abbrev y_B_size : MethodName := ⟨"NameMover$ByteRow", "size", "()I"⟩
abbrev rm_B_size : Room := { frames := 0, cells := 0, slots := 0, locals := 0 }
abbrev ws_B_size : List Cond := Cond.code y_B_size prog_2_method_2_code 1 (some .int) :: xtt
set_option maxRecDepth 100000 in
theorem v_B_size : ∀ q ∈ tb_B_size, xSd (0, 0) x0 xCl "NameMover$ByteRow" ws_B_size prog_2_method_2_code 1 (some .int) rm_B_size q :=
  xval (s_aload_n (f := 0) (by decide +kernel) rfl) (
  xval (s_getf (i := 13) (by decide +kernel) rfl tin_B (by decide) (tc tw_97)) (
  xval (s_iret (by decide +kernel)) (
  xval_nil)))
theorem c_B_size : xMet xCl y_B_size ws_B_size rm_B_size (xRun tb_B_size 1) := xMet.of (by decide) rfl v_B_size
def tb_W_openText : xT := [(0, o_aload 0 1), (1, o_getf 3 5), (4, o_i 14 2), (6, o_ic (fun a b => b ≤ a) 43), (9, o_aload 0 1), (10, o_dup), (11, o_getf 3 5), (14, o_i 1 1), (15, o_ii (fun a b => a + b)), (16, o_puti 3 5), (19, o_aload 0 1), (20, o_getf 3 4), (23, o_aload 0 1), (24, o_getf 3 5), (27, o_aload 0 1), (28, o_getf 3 1), (31, o_callV (xRun tb_B_size 1) 2 0 0 0), (34, o_iastore), (35, o_aload 0 1), (36, o_getf 3 1), (39, o_i 0 1), (40, o_callV (xRun tb_B_append 2) 2 1 0 0), (43, o_vret)]
abbrev y_W_openText : MethodName := ⟨"NameMover$ClassWriter", "openText", "()V"⟩
abbrev rm_W_openText : Room := { frames := 1, cells := 0, slots := 0, locals := 21 }
abbrev ws_W_openText : List Cond := Cond.code y_W_openText prog_4_method_9_code 1 (none) :: xtt
set_option maxRecDepth 100000 in
theorem v_W_openText : ∀ q ∈ tb_W_openText, xSd (0, 0) x0 xCl "NameMover$ClassWriter" ws_W_openText prog_4_method_9_code 1 (none) rm_W_openText q :=
  xval (s_aload_n (f := 0) (by decide +kernel) rfl) (
  xval (s_getf (i := 22) (by decide +kernel) rfl tin_W (by decide) (tc tw_114)) (
  xval (s_bipush (z := 14) (by decide +kernel) (by decide)) (
  xval (s_icge (z := 37) (by decide +kernel) (by decide)) (
  xval (s_aload_n (f := 0) (by decide +kernel) rfl) (
  xval (s_dup (by decide +kernel)) (
  xval (s_getf (i := 22) (by decide +kernel) rfl tin_W (by decide) (tc tw_114)) (
  xval (s_iconst (z := 1) (by decide +kernel) (by decide)) (
  xval (s_iadd (by decide +kernel)) (
  xval (s_puti (i := 22) (by decide +kernel) rfl tin_W (by decide) (tc tw_114) tW tW_ok nW rfl (by decide +kernel)) (
  xval (s_aload_n (f := 0) (by decide +kernel) rfl) (
  xval (s_getf (i := 19) (by decide +kernel) rfl tin_W (by decide) (tc tw_113)) (
  xval (s_aload_n (f := 0) (by decide +kernel) rfl) (
  xval (s_getf (i := 22) (by decide +kernel) rfl tin_W (by decide) (tc tw_114)) (
  xval (s_aload_n (f := 0) (by decide +kernel) rfl) (
  xval (s_getf (i := 29) (by decide +kernel) rfl tin_W (by decide) (tc tw_110)) (
  xval (s_callV (i := 116) c_B_size (by decide +kernel) rfl (xtt_good tw_618) rfl (tc tw_615) (tc tw_616) (tc tw_617) (tc tw_3) ⟨by decide, by decide, by decide +kernel⟩ ⟨by decide, by decide, rfl, rfl, by decide, by decide⟩ x0_e) (
  xval (s_iastore (by decide +kernel)) (
  xval (s_aload_n (f := 0) (by decide +kernel) rfl) (
  xval (s_getf (i := 29) (by decide +kernel) rfl tin_W (by decide) (tc tw_110)) (
  xval (s_iconst (z := 0) (by decide +kernel) (by decide)) (
  xval (s_callV (i := 84) c_B_append (by decide +kernel) rfl (xtt_good tw_606) rfl (tc tw_603) (tc tw_604) (tc tw_605) (tc tw_3) ⟨by decide, by decide, by decide +kernel⟩ ⟨by decide, by decide, rfl, rfl, by decide, by decide⟩ x0_e) (
  xval (s_vret (by decide +kernel)) (
  xval_nil)))))))))))))))))))))))
theorem c_W_openText : xMet xCl y_W_openText ws_W_openText rm_W_openText (xRun tb_W_openText 1) := xMet.of (by decide) rfl v_W_openText
def tb_W_appendText : xT := [(0, o_lload 1 1), (1, o_call (xRun tb_T_length 3) 1 0 0), (4, o_istore 3 1), (5, o_i 0 1), (6, o_istore 4 2), (8, o_iload 4 2), (10, o_iload 3 1), (11, o_ic (fun a b => b ≤ a) 33), (14, o_aload 0 1), (15, o_getf 3 1), (18, o_lload 1 1), (19, o_iload 4 2), (21, o_call (xRun tb_T_charAt 3) 2 0 0), (24, o_callV (xRun tb_B_append 2) 2 1 0 0), (27, o_iinc 4 1), (30, o_goto 8), (33, o_vret)]
abbrev y_W_appendText : MethodName := ⟨"NameMover$ClassWriter", "appendText", "(J)V"⟩
abbrev rm_W_appendText : Room := { frames := 2, cells := 0, slots := 0, locals := 44 }
abbrev ws_W_appendText : List Cond := Cond.code y_W_appendText prog_4_method_8_code 5 (none) :: xtt
set_option maxRecDepth 100000 in
theorem v_W_appendText : ∀ q ∈ tb_W_appendText, xSd (0, 0) x0 xCl "NameMover$ClassWriter" ws_W_appendText prog_4_method_8_code 5 (none) rm_W_appendText q :=
  xval (s_lload_n (f := 1) (by decide +kernel) rfl) (
  xval (s_callS (i := 100) c_T_length (by decide +kernel) rfl (xtt_good tw_272) (tc tw_623) (tc tw_271) (tc tw_7) ⟨by decide, by decide, by decide +kernel⟩ ⟨by decide, by decide, rfl, rfl, by decide, by decide⟩ x0_e) (
  xval (s_istore_n (f := 3) (by decide +kernel) rfl (by decide)) (
  xval (s_iconst (z := 0) (by decide +kernel) (by decide)) (
  xval (s_istore (by decide +kernel) (by decide)) (
  xval (s_iload (by decide +kernel)) (
  xval (s_iload_n (f := 3) (by decide +kernel) rfl) (
  xval (s_icge (z := 22) (by decide +kernel) (by decide)) (
  xval (s_aload_n (f := 0) (by decide +kernel) rfl) (
  xval (s_getf (i := 29) (by decide +kernel) rfl tin_W (by decide) (tc tw_110)) (
  xval (s_lload_n (f := 1) (by decide +kernel) rfl) (
  xval (s_iload (by decide +kernel)) (
  xval (s_callS (i := 106) c_T_charAt (by decide +kernel) rfl (xtt_good tw_222) (tc tw_624) (tc tw_221) (tc tw_7) ⟨by decide, by decide, by decide +kernel⟩ ⟨by decide, by decide, rfl, rfl, by decide, by decide⟩ x0_e) (
  xval (s_callV (i := 84) c_B_append (by decide +kernel) rfl (xtt_good tw_606) rfl (tc tw_603) (tc tw_604) (tc tw_605) (tc tw_3) ⟨by decide, by decide, by decide +kernel⟩ ⟨by decide, by decide, rfl, rfl, by decide, by decide⟩ x0_e) (
  xval (s_iinc (z := 1) (by decide +kernel) (by decide) (by decide)) (
  xval (s_goto (z := (-22)) (by decide +kernel) (by decide)) (
  xval (s_vret (by decide +kernel)) (
  xval_nil)))))))))))))))))
theorem c_W_appendText : xMet xCl y_W_appendText ws_W_appendText rm_W_appendText (xRun tb_W_appendText 5) := xMet.of (by decide) rfl v_W_appendText
def tb_B_has : xT := [(0, o_iload 1 1), (1, o_if (fun a => a < 0) 16), (4, o_iload 1 1), (5, o_aload 0 1), (6, o_getf 2 1), (9, o_ic (fun a b => b ≤ a) 16), (12, o_i 1 1), (13, o_goto 17), (16, o_i 0 1), (17, o_zret)]
abbrev y_B_has : MethodName := ⟨"NameMover$ByteRow", "has", "(I)Z"⟩
abbrev rm_B_has : Room := { frames := 0, cells := 0, slots := 0, locals := 0 }
abbrev ws_B_has : List Cond := Cond.code y_B_has prog_2_method_4_code 2 (some .boolean) :: xtt
set_option maxRecDepth 100000 in
theorem v_B_has : ∀ q ∈ tb_B_has, xSd (0, 0) x0 xCl "NameMover$ByteRow" ws_B_has prog_2_method_4_code 2 (some .boolean) rm_B_has q :=
  xval (s_iload_n (f := 1) (by decide +kernel) rfl) (
  xval (s_iflt (z := 15) (by decide +kernel) (by decide)) (
  xval (s_iload_n (f := 1) (by decide +kernel) rfl) (
  xval (s_aload_n (f := 0) (by decide +kernel) rfl) (
  xval (s_getf (i := 13) (by decide +kernel) rfl tin_B (by decide) (tc tw_97)) (
  xval (s_icge (z := 7) (by decide +kernel) (by decide)) (
  xval (s_iconst (z := 1) (by decide +kernel) (by decide)) (
  xval (s_goto (z := 4) (by decide +kernel) (by decide)) (
  xval (s_iconst (z := 0) (by decide +kernel) (by decide)) (
  xval (s_zret (by decide +kernel)) (
  xval_nil))))))))))
theorem c_B_has : xMet xCl y_B_has ws_B_has rm_B_has (xRun tb_B_has 2) := xMet.of (by decide) rfl v_B_has
def tb_B_set : xT := [(0, o_aload 0 1), (1, o_iload 1 1), (2, o_callV (xRun tb_B_has 2) 2 1 0 0), (5, o_if (fun a => a = 0) 15), (8, o_aload 0 1), (9, o_getf 2 0), (12, o_iload 1 1), (13, o_iload 2 1), (14, o_iastore), (15, o_vret)]
abbrev y_B_set : MethodName := ⟨"NameMover$ByteRow", "set", "(II)V"⟩
abbrev rm_B_set : Room := { frames := 1, cells := 0, slots := 0, locals := 21 }
abbrev ws_B_set : List Cond := Cond.code y_B_set prog_2_method_6_code 3 (none) :: xtt
set_option maxRecDepth 100000 in
theorem v_B_set : ∀ q ∈ tb_B_set, xSd (0, 0) x0 xCl "NameMover$ByteRow" ws_B_set prog_2_method_6_code 3 (none) rm_B_set q :=
  xval (s_aload_n (f := 0) (by decide +kernel) rfl) (
  xval (s_iload_n (f := 1) (by decide +kernel) rfl) (
  xval (s_callV (i := 26) c_B_has (by decide +kernel) rfl (xtt_good tw_636) rfl (tc tw_633) (tc tw_634) (tc tw_635) (tc tw_3) ⟨by decide, by decide, by decide +kernel⟩ ⟨by decide, by decide, rfl, rfl, by decide, by decide⟩ x0_e) (
  xval (s_ifeq (z := 10) (by decide +kernel) (by decide)) (
  xval (s_aload_n (f := 0) (by decide +kernel) rfl) (
  xval (s_getf (i := 9) (by decide +kernel) rfl tin_B (by decide) (tc tw_96)) (
  xval (s_iload_n (f := 1) (by decide +kernel) rfl) (
  xval (s_iload_n (f := 2) (by decide +kernel) rfl) (
  xval (s_iastore (by decide +kernel)) (
  xval (s_vret (by decide +kernel)) (
  xval_nil))))))))))
theorem c_B_set : xMet xCl y_B_set ws_B_set rm_B_set (xRun tb_B_set 3) := xMet.of (by decide) rfl v_B_set
def tb_B_get : xT := [(0, o_iload 1 1), (1, o_if (fun a => a < 0) 21), (4, o_iload 1 1), (5, o_aload 0 1), (6, o_getf 2 1), (9, o_ic (fun a b => b ≤ a) 21), (12, o_aload 0 1), (13, o_getf 2 0), (16, o_iload 1 1), (17, o_iaload), (18, o_goto 22), (21, o_i 0 1), (22, o_iret)]
abbrev y_B_get : MethodName := ⟨"NameMover$ByteRow", "get", "(I)I"⟩
abbrev rm_B_get : Room := { frames := 0, cells := 0, slots := 0, locals := 0 }
abbrev ws_B_get : List Cond := Cond.code y_B_get prog_2_method_5_code 2 (some .int) :: xtt
set_option maxRecDepth 100000 in
theorem v_B_get : ∀ q ∈ tb_B_get, xSd (0, 0) x0 xCl "NameMover$ByteRow" ws_B_get prog_2_method_5_code 2 (some .int) rm_B_get q :=
  xval (s_iload_n (f := 1) (by decide +kernel) rfl) (
  xval (s_iflt (z := 20) (by decide +kernel) (by decide)) (
  xval (s_iload_n (f := 1) (by decide +kernel) rfl) (
  xval (s_aload_n (f := 0) (by decide +kernel) rfl) (
  xval (s_getf (i := 13) (by decide +kernel) rfl tin_B (by decide) (tc tw_97)) (
  xval (s_icge (z := 12) (by decide +kernel) (by decide)) (
  xval (s_aload_n (f := 0) (by decide +kernel) rfl) (
  xval (s_getf (i := 9) (by decide +kernel) rfl tin_B (by decide) (tc tw_96)) (
  xval (s_iload_n (f := 1) (by decide +kernel) rfl) (
  xval (s_iaload (by decide +kernel)) (
  xval (s_goto (z := 4) (by decide +kernel) (by decide)) (
  xval (s_iconst (z := 0) (by decide +kernel) (by decide)) (
  xval (s_iret (by decide +kernel)) (
  xval_nil)))))))))))))
theorem c_B_get : xMet xCl y_B_get ws_B_get rm_B_get (xRun tb_B_get 2) := xMet.of (by decide) rfl v_B_get
def tb_B_hasEqualBytes : xT := [(0, o_i 0 1), (1, o_istore 5 2), (3, o_iload 5 2), (5, o_iload 4 2), (7, o_ic (fun a b => b ≤ a) 37), (10, o_aload 0 1), (11, o_iload 1 1), (12, o_iload 5 2), (14, o_ii (fun a b => a + b)), (15, o_callV (xRun tb_B_get 2) 2 1 0 0), (18, o_aload 2 1), (19, o_iload 3 1), (20, o_iload 5 2), (22, o_ii (fun a b => a + b)), (23, o_callV (xRun tb_B_get 2) 2 1 0 0), (26, o_ic (fun a b => a = b) 31), (29, o_i 0 1), (30, o_zret), (31, o_iinc 5 1), (34, o_goto 3), (37, o_i 1 1), (38, o_zret)]
abbrev y_B_hasEqualBytes : MethodName := ⟨"NameMover$ByteRow", "hasEqualBytes", "(ILNameMover$ByteRow;II)Z"⟩
abbrev rm_B_hasEqualBytes : Room := { frames := 1, cells := 0, slots := 0, locals := 21 }
abbrev ws_B_hasEqualBytes : List Cond := Cond.code y_B_hasEqualBytes prog_2_method_9_code 6 (some .boolean) :: xtt
set_option maxRecDepth 100000 in
theorem v_B_hasEqualBytes : ∀ q ∈ tb_B_hasEqualBytes, xSd (0, 0) x0 xCl "NameMover$ByteRow" ws_B_hasEqualBytes prog_2_method_9_code 6 (some .boolean) rm_B_hasEqualBytes q :=
  xval (s_iconst (z := 0) (by decide +kernel) (by decide)) (
  xval (s_istore (by decide +kernel) (by decide)) (
  xval (s_iload (by decide +kernel)) (
  xval (s_iload (by decide +kernel)) (
  xval (s_icge (z := 30) (by decide +kernel) (by decide)) (
  xval (s_aload_n (f := 0) (by decide +kernel) rfl) (
  xval (s_iload_n (f := 1) (by decide +kernel) rfl) (
  xval (s_iload (by decide +kernel)) (
  xval (s_iadd (by decide +kernel)) (
  xval (s_callV (i := 34) c_B_get (by decide +kernel) rfl (xtt_good tw_644) rfl (tc tw_641) (tc tw_642) (tc tw_643) (tc tw_3) ⟨by decide, by decide, by decide +kernel⟩ ⟨by decide, by decide, rfl, rfl, by decide, by decide⟩ x0_e) (
  xval (s_aload_n (f := 2) (by decide +kernel) rfl) (
  xval (s_iload_n (f := 3) (by decide +kernel) rfl) (
  xval (s_iload (by decide +kernel)) (
  xval (s_iadd (by decide +kernel)) (
  xval (s_callV (i := 34) c_B_get (by decide +kernel) rfl (xtt_good tw_644) rfl (tc tw_641) (tc tw_642) (tc tw_643) (tc tw_3) ⟨by decide, by decide, by decide +kernel⟩ ⟨by decide, by decide, rfl, rfl, by decide, by decide⟩ x0_e) (
  xval (s_iceq (z := 5) (by decide +kernel) (by decide)) (
  xval (s_iconst (z := 0) (by decide +kernel) (by decide)) (
  xval (s_zret (by decide +kernel)) (
  xval (s_iinc (z := 1) (by decide +kernel) (by decide) (by decide)) (
  xval (s_goto (z := (-31)) (by decide +kernel) (by decide)) (
  xval (s_iconst (z := 1) (by decide +kernel) (by decide)) (
  xval (s_zret (by decide +kernel)) (
  xval_nil))))))))))))))))))))))
theorem c_B_hasEqualBytes : xMet xCl y_B_hasEqualBytes ws_B_hasEqualBytes rm_B_hasEqualBytes (xRun tb_B_hasEqualBytes 6) := xMet.of (by decide) rfl v_B_hasEqualBytes
def tb_W_useNumber : xT := [(0, o_aload 0 1), (1, o_getf 3 3), (4, o_i 22 2), (6, o_ic (fun a b => b ≤ a) 29), (9, o_aload 0 1), (10, o_getf 3 2), (13, o_aload 0 1), (14, o_getf 3 3), (17, o_iload 1 1), (18, o_iastore), (19, o_aload 0 1), (20, o_dup), (21, o_getf 3 3), (24, o_i 1 1), (25, o_ii (fun a b => a + b)), (26, o_puti 3 3), (29, o_vret)]
abbrev y_W_useNumber : MethodName := ⟨"NameMover$ClassWriter", "useNumber", "(I)V"⟩
abbrev rm_W_useNumber : Room := { frames := 0, cells := 0, slots := 0, locals := 0 }
abbrev ws_W_useNumber : List Cond := Cond.code y_W_useNumber prog_4_method_5_code 2 (none) :: xtt
set_option maxRecDepth 100000 in
theorem v_W_useNumber : ∀ q ∈ tb_W_useNumber, xSd (0, 0) x0 xCl "NameMover$ClassWriter" ws_W_useNumber prog_4_method_5_code 2 (none) rm_W_useNumber q :=
  xval (s_aload_n (f := 0) (by decide +kernel) rfl) (
  xval (s_getf (i := 15) (by decide +kernel) rfl tin_W (by decide) (tc tw_112)) (
  xval (s_bipush (z := 22) (by decide +kernel) (by decide)) (
  xval (s_icge (z := 23) (by decide +kernel) (by decide)) (
  xval (s_aload_n (f := 0) (by decide +kernel) rfl) (
  xval (s_getf (i := 9) (by decide +kernel) rfl tin_W (by decide) (tc tw_111)) (
  xval (s_aload_n (f := 0) (by decide +kernel) rfl) (
  xval (s_getf (i := 15) (by decide +kernel) rfl tin_W (by decide) (tc tw_112)) (
  xval (s_iload_n (f := 1) (by decide +kernel) rfl) (
  xval (s_iastore (by decide +kernel)) (
  xval (s_aload_n (f := 0) (by decide +kernel) rfl) (
  xval (s_dup (by decide +kernel)) (
  xval (s_getf (i := 15) (by decide +kernel) rfl tin_W (by decide) (tc tw_112)) (
  xval (s_iconst (z := 1) (by decide +kernel) (by decide)) (
  xval (s_iadd (by decide +kernel)) (
  xval (s_puti (i := 15) (by decide +kernel) rfl tin_W (by decide) (tc tw_112) tW tW_ok nW rfl (by decide +kernel)) (
  xval (s_vret (by decide +kernel)) (
  xval_nil)))))))))))))))))
theorem c_W_useNumber : xMet xCl y_W_useNumber ws_W_useNumber rm_W_useNumber (xRun tb_W_useNumber 2) := xMet.of (by decide) rfl v_W_useNumber
def tb_W_closeText : xT := [(0, o_aload 0 1), (1, o_getf 3 4), (4, o_aload 0 1), (5, o_getf 3 5), (8, o_iaload), (9, o_istore 1 1), (10, o_aload 0 1), (11, o_getf 3 1), (14, o_callV (xRun tb_B_size 1) 2 0 0 0), (17, o_iload 1 1), (18, o_ii (fun a b => a - b)), (19, o_i 1 1), (20, o_ii (fun a b => a - b)), (21, o_istore 2 1), (22, o_aload 0 1), (23, o_getf 3 1), (26, o_iload 1 1), (27, o_iload 2 1), (28, o_callV (xRun tb_B_set 3) 2 2 0 0), (31, o_i 1 1), (32, o_istore 3 1), (33, o_iload 3 1), (34, o_aload 0 1), (35, o_getf 3 5), (38, o_ic (fun a b => b ≤ a) 71), (41, o_aload 0 1), (42, o_getf 3 1), (45, o_aload 0 1), (46, o_getf 3 4), (49, o_iload 3 1), (50, o_iaload), (51, o_aload 0 1), (52, o_getf 3 1), (55, o_iload 1 1), (56, o_iload 2 1), (57, o_i 1 1), (58, o_ii (fun a b => a + b)), (59, o_callV (xRun tb_B_hasEqualBytes 6) 2 4 0 0), (62, o_ifn (fun a => a = 0) 71), (65, o_iinc 3 1), (68, o_goto 33), (71, o_iload 3 1), (72, o_aload 0 1), (73, o_getf 3 5), (76, o_ic (fun a b => b ≤ a) 97), (79, o_aload 0 1), (80, o_getf 3 1), (83, o_iload 1 1), (84, o_callV (xRun tb_B_cutTo 2) 2 1 0 0), (87, o_aload 0 1), (88, o_dup), (89, o_getf 3 5), (92, o_i 1 1), (93, o_ii (fun a b => a - b)), (94, o_puti 3 5), (97, o_aload 0 1), (98, o_iload 3 1), (99, o_callV (xRun tb_W_useNumber 2) 3 1 0 0), (102, o_vret)]
abbrev y_W_closeText : MethodName := ⟨"NameMover$ClassWriter", "closeText", "()V"⟩
abbrev rm_W_closeText : Room := { frames := 2, cells := 0, slots := 0, locals := 46 }
abbrev ws_W_closeText : List Cond := Cond.code y_W_closeText prog_4_method_10_code 4 (none) :: xtt
set_option maxRecDepth 100000 in
theorem v_W_closeText : ∀ q ∈ tb_W_closeText, xSd (0, 0) x0 xCl "NameMover$ClassWriter" ws_W_closeText prog_4_method_10_code 4 (none) rm_W_closeText q :=
  xval (s_aload_n (f := 0) (by decide +kernel) rfl) (
  xval (s_getf (i := 19) (by decide +kernel) rfl tin_W (by decide) (tc tw_113)) (
  xval (s_aload_n (f := 0) (by decide +kernel) rfl) (
  xval (s_getf (i := 22) (by decide +kernel) rfl tin_W (by decide) (tc tw_114)) (
  xval (s_iaload (by decide +kernel)) (
  xval (s_istore_n (f := 1) (by decide +kernel) rfl (by decide)) (
  xval (s_aload_n (f := 0) (by decide +kernel) rfl) (
  xval (s_getf (i := 29) (by decide +kernel) rfl tin_W (by decide) (tc tw_110)) (
  xval (s_callV (i := 116) c_B_size (by decide +kernel) rfl (xtt_good tw_618) rfl (tc tw_615) (tc tw_616) (tc tw_617) (tc tw_3) ⟨by decide, by decide, by decide +kernel⟩ ⟨by decide, by decide, rfl, rfl, by decide, by decide⟩ x0_e) (
  xval (s_iload_n (f := 1) (by decide +kernel) rfl) (
  xval (s_isub (by decide +kernel)) (
  xval (s_iconst (z := 1) (by decide +kernel) (by decide)) (
  xval (s_isub (by decide +kernel)) (
  xval (s_istore_n (f := 2) (by decide +kernel) rfl (by decide)) (
  xval (s_aload_n (f := 0) (by decide +kernel) rfl) (
  xval (s_getf (i := 29) (by decide +kernel) rfl tin_W (by decide) (tc tw_110)) (
  xval (s_iload_n (f := 1) (by decide +kernel) rfl) (
  xval (s_iload_n (f := 2) (by decide +kernel) rfl) (
  xval (s_callV (i := 87) c_B_set (by decide +kernel) rfl (xtt_good tw_632) rfl (tc tw_629) (tc tw_630) (tc tw_631) (tc tw_3) ⟨by decide, by decide, by decide +kernel⟩ ⟨by decide, by decide, rfl, rfl, by decide, by decide⟩ x0_e) (
  xval (s_iconst (z := 1) (by decide +kernel) (by decide)) (
  xval (s_istore_n (f := 3) (by decide +kernel) rfl (by decide)) (
  xval (s_iload_n (f := 3) (by decide +kernel) rfl) (
  xval (s_aload_n (f := 0) (by decide +kernel) rfl) (
  xval (s_getf (i := 22) (by decide +kernel) rfl tin_W (by decide) (tc tw_114)) (
  xval (s_icge (z := 33) (by decide +kernel) (by decide)) (
  xval (s_aload_n (f := 0) (by decide +kernel) rfl) (
  xval (s_getf (i := 29) (by decide +kernel) rfl tin_W (by decide) (tc tw_110)) (
  xval (s_aload_n (f := 0) (by decide +kernel) rfl) (
  xval (s_getf (i := 19) (by decide +kernel) rfl tin_W (by decide) (tc tw_113)) (
  xval (s_iload_n (f := 3) (by decide +kernel) rfl) (
  xval (s_iaload (by decide +kernel)) (
  xval (s_aload_n (f := 0) (by decide +kernel) rfl) (
  xval (s_getf (i := 29) (by decide +kernel) rfl tin_W (by decide) (tc tw_110)) (
  xval (s_iload_n (f := 1) (by decide +kernel) rfl) (
  xval (s_iload_n (f := 2) (by decide +kernel) rfl) (
  xval (s_iconst (z := 1) (by decide +kernel) (by decide)) (
  xval (s_iadd (by decide +kernel)) (
  xval (s_callV (i := 120) c_B_hasEqualBytes (by decide +kernel) rfl (xtt_good tw_640) rfl (tc tw_637) (tc tw_638) (tc tw_639) (tc tw_3) ⟨by decide, by decide, by decide +kernel⟩ ⟨by decide, by decide, rfl, rfl, by decide, by decide⟩ x0_e) (
  xval (s_ifne (z := 9) (by decide +kernel) (by decide)) (
  xval (s_iinc (z := 1) (by decide +kernel) (by decide) (by decide)) (
  xval (s_goto (z := (-35)) (by decide +kernel) (by decide)) (
  xval (s_iload_n (f := 3) (by decide +kernel) rfl) (
  xval (s_aload_n (f := 0) (by decide +kernel) rfl) (
  xval (s_getf (i := 22) (by decide +kernel) rfl tin_W (by decide) (tc tw_114)) (
  xval (s_icge (z := 21) (by decide +kernel) (by decide)) (
  xval (s_aload_n (f := 0) (by decide +kernel) rfl) (
  xval (s_getf (i := 29) (by decide +kernel) rfl tin_W (by decide) (tc tw_110)) (
  xval (s_iload_n (f := 1) (by decide +kernel) rfl) (
  xval (s_callV (i := 79) c_B_cutTo (by decide +kernel) rfl (xtt_good tw_596) rfl (tc tw_593) (tc tw_594) (tc tw_595) (tc tw_3) ⟨by decide, by decide, by decide +kernel⟩ ⟨by decide, by decide, rfl, rfl, by decide, by decide⟩ x0_e) (
  xval (s_aload_n (f := 0) (by decide +kernel) rfl) (
  xval (s_dup (by decide +kernel)) (
  xval (s_getf (i := 22) (by decide +kernel) rfl tin_W (by decide) (tc tw_114)) (
  xval (s_iconst (z := 1) (by decide +kernel) (by decide)) (
  xval (s_isub (by decide +kernel)) (
  xval (s_puti (i := 22) (by decide +kernel) rfl tin_W (by decide) (tc tw_114) tW tW_ok nW rfl (by decide +kernel)) (
  xval (s_aload_n (f := 0) (by decide +kernel) rfl) (
  xval (s_iload_n (f := 3) (by decide +kernel) rfl) (
  xval (s_callV (i := 49) c_W_useNumber (by decide +kernel) rfl (xtt_good tw_648) rfl (tc tw_645) (tc tw_647) (tc ts_12) (tc tw_4) ⟨by decide, by decide, by decide +kernel⟩ ⟨by decide, by decide, rfl, rfl, by decide, by decide⟩ x0_e) (
  xval (s_vret (by decide +kernel)) (
  xval_nil)))))))))))))))))))))))))))))))))))))))))))))))))))))))))))
theorem c_W_closeText : xMet xCl y_W_closeText ws_W_closeText rm_W_closeText (xRun tb_W_closeText 4) := xMet.of (by decide) rfl v_W_closeText
def tb_W_useText : xT := [(0, o_aload 0 1), (1, o_callV (xRun tb_W_openText 1) 3 0 0 0), (4, o_aload 0 1), (5, o_lload 1 1), (6, o_callV (xRun tb_W_appendText 5) 3 1 0 0), (9, o_aload 0 1), (10, o_callV (xRun tb_W_closeText 4) 3 0 0 0), (13, o_vret)]
abbrev y_W_useText : MethodName := ⟨"NameMover$ClassWriter", "useText", "(J)V"⟩
abbrev rm_W_useText : Room := { frames := 3, cells := 0, slots := 0, locals := 69 }
abbrev ws_W_useText : List Cond := Cond.code y_W_useText prog_4_method_6_code 3 (none) :: xtt
set_option maxRecDepth 100000 in
theorem v_W_useText : ∀ q ∈ tb_W_useText, xSd (0, 0) x0 xCl "NameMover$ClassWriter" ws_W_useText prog_4_method_6_code 3 (none) rm_W_useText q :=
  xval (s_aload_n (f := 0) (by decide +kernel) rfl) (
  xval (s_callV (i := 91) c_W_openText (by decide +kernel) rfl (xtt_good tw_614) rfl (tc tw_611) (tc tw_613) (tc ts_9) (tc tw_4) ⟨by decide, by decide, by decide +kernel⟩ ⟨by decide, by decide, rfl, rfl, by decide, by decide⟩ x0_e) (
  xval (s_aload_n (f := 0) (by decide +kernel) rfl) (
  xval (s_lload_n (f := 1) (by decide +kernel) rfl) (
  xval (s_callV (i := 94) c_W_appendText (by decide +kernel) rfl (xtt_good tw_622) rfl (tc tw_619) (tc tw_621) (tc ts_10) (tc tw_4) ⟨by decide, by decide, by decide +kernel⟩ ⟨by decide, by decide, rfl, rfl, by decide, by decide⟩ x0_e) (
  xval (s_aload_n (f := 0) (by decide +kernel) rfl) (
  xval (s_callV (i := 97) c_W_closeText (by decide +kernel) rfl (xtt_good tw_628) rfl (tc tw_625) (tc tw_627) (tc ts_11) (tc tw_4) ⟨by decide, by decide, by decide +kernel⟩ ⟨by decide, by decide, rfl, rfl, by decide, by decide⟩ x0_e) (
  xval (s_vret (by decide +kernel)) (
  xval_nil))))))))
theorem c_W_useText : xMet xCl y_W_useText ws_W_useText rm_W_useText (xRun tb_W_useText 3) := xMet.of (by decide) rfl v_W_useText
def tb_W_useDescriptor : xT := [(0, o_aload 0 1), (1, o_callV (xRun tb_W_openText 1) 3 0 0 0), (4, o_lload 1 1), (5, o_call (xRun tb_T_length 3) 1 0 0), (8, o_istore 3 1), (9, o_i 0 1), (10, o_istore 4 2), (12, o_iload 4 2), (14, o_iload 3 1), (15, o_ic (fun a b => b ≤ a) 89), (18, o_lload 1 1), (19, o_iload 4 2), (21, o_call (xRun tb_T_charAt 3) 2 0 0), (24, o_istore 5 2), (26, o_iload 5 2), (28, o_i 8 2), (30, o_call (xRun tb_D_isClassDigit 2) 2 0 0), (33, o_if (fun a => a = 0) 74), (36, o_aload 0 1), (37, o_getf 3 1), (40, o_i 76 2), (42, o_callV (xRun tb_B_append 2) 2 1 0 0), (45, o_aload 0 1), (46, o_aload 0 1), (47, o_getf 3 0), (50, o_getf 1 0), (53, o_iload 5 2), (55, o_i 48 2), (57, o_ii (fun a b => a - b)), (58, o_laload), (59, o_callV (xRun tb_W_appendText 5) 3 1 0 0), (62, o_aload 0 1), (63, o_getf 3 1), (66, o_i 59 2), (68, o_callV (xRun tb_B_append 2) 2 1 0 0), (71, o_goto 83), (74, o_aload 0 1), (75, o_getf 3 1), (78, o_iload 5 2), (80, o_callV (xRun tb_B_append 2) 2 1 0 0), (83, o_iinc 4 1), (86, o_goto 12), (89, o_aload 0 1), (90, o_callV (xRun tb_W_closeText 4) 3 0 0 0), (93, o_vret)]
abbrev y_W_useDescriptor : MethodName := ⟨"NameMover$ClassWriter", "useDescriptor", "(J)V"⟩
abbrev rm_W_useDescriptor : Room := { frames := 3, cells := 0, slots := 0, locals := 69 }
abbrev ws_W_useDescriptor : List Cond := Cond.code y_W_useDescriptor prog_4_method_7_code 6 (none) :: xtt
set_option maxRecDepth 100000 in
theorem v_W_useDescriptor : ∀ q ∈ tb_W_useDescriptor, xSd (0, 0) x0 xCl "NameMover$ClassWriter" ws_W_useDescriptor prog_4_method_7_code 6 (none) rm_W_useDescriptor q :=
  xval (s_aload_n (f := 0) (by decide +kernel) rfl) (
  xval (s_callV (i := 91) c_W_openText (by decide +kernel) rfl (xtt_good tw_614) rfl (tc tw_611) (tc tw_613) (tc ts_9) (tc tw_4) ⟨by decide, by decide, by decide +kernel⟩ ⟨by decide, by decide, rfl, rfl, by decide, by decide⟩ x0_e) (
  xval (s_lload_n (f := 1) (by decide +kernel) rfl) (
  xval (s_callS (i := 100) c_T_length (by decide +kernel) rfl (xtt_good tw_272) (tc tw_623) (tc tw_271) (tc tw_7) ⟨by decide, by decide, by decide +kernel⟩ ⟨by decide, by decide, rfl, rfl, by decide, by decide⟩ x0_e) (
  xval (s_istore_n (f := 3) (by decide +kernel) rfl (by decide)) (
  xval (s_iconst (z := 0) (by decide +kernel) (by decide)) (
  xval (s_istore (by decide +kernel) (by decide)) (
  xval (s_iload (by decide +kernel)) (
  xval (s_iload_n (f := 3) (by decide +kernel) rfl) (
  xval (s_icge (z := 74) (by decide +kernel) (by decide)) (
  xval (s_lload_n (f := 1) (by decide +kernel) rfl) (
  xval (s_iload (by decide +kernel)) (
  xval (s_callS (i := 106) c_T_charAt (by decide +kernel) rfl (xtt_good tw_222) (tc tw_624) (tc tw_221) (tc tw_7) ⟨by decide, by decide, by decide +kernel⟩ ⟨by decide, by decide, rfl, rfl, by decide, by decide⟩ x0_e) (
  xval (s_istore (by decide +kernel) (by decide)) (
  xval (s_iload (by decide +kernel)) (
  xval (s_bipush (z := 8) (by decide +kernel) (by decide)) (
  xval (s_callS (i := 110) c_D_isClassDigit (by decide +kernel) rfl (xtt_good tw_431) (tc tw_654) (tc tw_430) (tc tw_14) ⟨by decide, by decide, by decide +kernel⟩ ⟨by decide, by decide, rfl, rfl, by decide, by decide⟩ x0_e) (
  xval (s_ifeq (z := 41) (by decide +kernel) (by decide)) (
  xval (s_aload_n (f := 0) (by decide +kernel) rfl) (
  xval (s_getf (i := 29) (by decide +kernel) rfl tin_W (by decide) (tc tw_110)) (
  xval (s_bipush (z := 76) (by decide +kernel) (by decide)) (
  xval (s_callV (i := 84) c_B_append (by decide +kernel) rfl (xtt_good tw_606) rfl (tc tw_603) (tc tw_604) (tc tw_605) (tc tw_3) ⟨by decide, by decide, by decide +kernel⟩ ⟨by decide, by decide, rfl, rfl, by decide, by decide⟩ x0_e) (
  xval (s_aload_n (f := 0) (by decide +kernel) rfl) (
  xval (s_aload_n (f := 0) (by decide +kernel) rfl) (
  xval (s_getf (i := 25) (by decide +kernel) rfl tin_W (by decide) (tc tw_109)) (
  xval (s_getf (i := 36) (by decide +kernel) rfl tin_S (by decide) (tc tw_34)) (
  xval (s_iload (by decide +kernel)) (
  xval (s_bipush (z := 48) (by decide +kernel) (by decide)) (
  xval (s_isub (by decide +kernel)) (
  xval (s_laload (by decide +kernel)) (
  xval (s_callV (i := 94) c_W_appendText (by decide +kernel) rfl (xtt_good tw_622) rfl (tc tw_619) (tc tw_621) (tc ts_10) (tc tw_4) ⟨by decide, by decide, by decide +kernel⟩ ⟨by decide, by decide, rfl, rfl, by decide, by decide⟩ x0_e) (
  xval (s_aload_n (f := 0) (by decide +kernel) rfl) (
  xval (s_getf (i := 29) (by decide +kernel) rfl tin_W (by decide) (tc tw_110)) (
  xval (s_bipush (z := 59) (by decide +kernel) (by decide)) (
  xval (s_callV (i := 84) c_B_append (by decide +kernel) rfl (xtt_good tw_606) rfl (tc tw_603) (tc tw_604) (tc tw_605) (tc tw_3) ⟨by decide, by decide, by decide +kernel⟩ ⟨by decide, by decide, rfl, rfl, by decide, by decide⟩ x0_e) (
  xval (s_goto (z := 12) (by decide +kernel) (by decide)) (
  xval (s_aload_n (f := 0) (by decide +kernel) rfl) (
  xval (s_getf (i := 29) (by decide +kernel) rfl tin_W (by decide) (tc tw_110)) (
  xval (s_iload (by decide +kernel)) (
  xval (s_callV (i := 84) c_B_append (by decide +kernel) rfl (xtt_good tw_606) rfl (tc tw_603) (tc tw_604) (tc tw_605) (tc tw_3) ⟨by decide, by decide, by decide +kernel⟩ ⟨by decide, by decide, rfl, rfl, by decide, by decide⟩ x0_e) (
  xval (s_iinc (z := 1) (by decide +kernel) (by decide) (by decide)) (
  xval (s_goto (z := (-74)) (by decide +kernel) (by decide)) (
  xval (s_aload_n (f := 0) (by decide +kernel) rfl) (
  xval (s_callV (i := 97) c_W_closeText (by decide +kernel) rfl (xtt_good tw_628) rfl (tc tw_625) (tc tw_627) (tc ts_11) (tc tw_4) ⟨by decide, by decide, by decide +kernel⟩ ⟨by decide, by decide, rfl, rfl, by decide, by decide⟩ x0_e) (
  xval (s_vret (by decide +kernel)) (
  xval_nil)))))))))))))))))))))))))))))))))))))))))))))
theorem c_W_useDescriptor : xMet xCl y_W_useDescriptor ws_W_useDescriptor rm_W_useDescriptor (xRun tb_W_useDescriptor 6) := xMet.of (by decide) rfl v_W_useDescriptor
def tb_W_end : xT := [(0, o_aload 0 1), (1, o_getf 3 1), (4, o_i 1 1), (5, o_aload 0 1), (6, o_getf 3 5), (9, o_callV (xRun tb_B_set 3) 2 2 0 0), (12, o_i 0 1), (13, o_istore 1 1), (14, o_iload 1 1), (15, o_aload 0 1), (16, o_getf 3 3), (19, o_ic (fun a b => b ≤ a) 41), (22, o_aload 0 1), (23, o_getf 3 1), (26, o_aload 0 1), (27, o_getf 3 2), (30, o_iload 1 1), (31, o_iaload), (32, o_callV (xRun tb_B_append 2) 2 1 0 0), (35, o_iinc 1 1), (38, o_goto 14), (41, o_vret)]
abbrev y_W_end : MethodName := ⟨"NameMover$ClassWriter", "end", "()V"⟩
abbrev rm_W_end : Room := { frames := 2, cells := 0, slots := 0, locals := 43 }
abbrev ws_W_end : List Cond := Cond.code y_W_end prog_4_method_4_code 2 (none) :: xtt
set_option maxRecDepth 100000 in
theorem v_W_end : ∀ q ∈ tb_W_end, xSd (0, 0) x0 xCl "NameMover$ClassWriter" ws_W_end prog_4_method_4_code 2 (none) rm_W_end q :=
  xval (s_aload_n (f := 0) (by decide +kernel) rfl) (
  xval (s_getf (i := 29) (by decide +kernel) rfl tin_W (by decide) (tc tw_110)) (
  xval (s_iconst (z := 1) (by decide +kernel) (by decide)) (
  xval (s_aload_n (f := 0) (by decide +kernel) rfl) (
  xval (s_getf (i := 22) (by decide +kernel) rfl tin_W (by decide) (tc tw_114)) (
  xval (s_callV (i := 87) c_B_set (by decide +kernel) rfl (xtt_good tw_632) rfl (tc tw_629) (tc tw_630) (tc tw_631) (tc tw_3) ⟨by decide, by decide, by decide +kernel⟩ ⟨by decide, by decide, rfl, rfl, by decide, by decide⟩ x0_e) (
  xval (s_iconst (z := 0) (by decide +kernel) (by decide)) (
  xval (s_istore_n (f := 1) (by decide +kernel) rfl (by decide)) (
  xval (s_iload_n (f := 1) (by decide +kernel) rfl) (
  xval (s_aload_n (f := 0) (by decide +kernel) rfl) (
  xval (s_getf (i := 15) (by decide +kernel) rfl tin_W (by decide) (tc tw_112)) (
  xval (s_icge (z := 22) (by decide +kernel) (by decide)) (
  xval (s_aload_n (f := 0) (by decide +kernel) rfl) (
  xval (s_getf (i := 29) (by decide +kernel) rfl tin_W (by decide) (tc tw_110)) (
  xval (s_aload_n (f := 0) (by decide +kernel) rfl) (
  xval (s_getf (i := 9) (by decide +kernel) rfl tin_W (by decide) (tc tw_111)) (
  xval (s_iload_n (f := 1) (by decide +kernel) rfl) (
  xval (s_iaload (by decide +kernel)) (
  xval (s_callV (i := 84) c_B_append (by decide +kernel) rfl (xtt_good tw_606) rfl (tc tw_603) (tc tw_604) (tc tw_605) (tc tw_3) ⟨by decide, by decide, by decide +kernel⟩ ⟨by decide, by decide, rfl, rfl, by decide, by decide⟩ x0_e) (
  xval (s_iinc (z := 1) (by decide +kernel) (by decide) (by decide)) (
  xval (s_goto (z := (-24)) (by decide +kernel) (by decide)) (
  xval (s_vret (by decide +kernel)) (
  xval_nil))))))))))))))))))))))
theorem c_W_end : xMet xCl y_W_end ws_W_end rm_W_end (xRun tb_W_end 2) := xMet.of (by decide) rfl v_W_end
def tb_W_compose : xT := [(0, o_aload 0 1), (1, o_callV (xRun tb_W_begin 1) 3 0 0 0), (4, o_aload 0 1), (5, o_aload 0 1), (6, o_getf 3 0), (9, o_getf 1 0), (12, o_iload 1 1), (13, o_laload), (14, o_callV (xRun tb_W_useText 3) 3 1 0 0), (17, o_aload 0 1), (18, o_getf 3 0), (21, o_getf 1 2), (24, o_iload 1 1), (25, o_iaload), (26, o_istore 2 1), (27, o_iload 2 1), (28, o_i (-1) 1), (29, o_icn (fun a b => a = b) 40), (32, o_aload 0 1), (33, o_i 0 1), (34, o_callV (xRun tb_W_useNumber 2) 3 1 0 0), (37, o_goto 53), (40, o_aload 0 1), (41, o_aload 0 1), (42, o_getf 3 0), (45, o_getf 1 0), (48, o_iload 2 1), (49, o_laload), (50, o_callV (xRun tb_W_useText 3) 3 1 0 0), (53, o_aload 0 1), (54, o_aload 0 1), (55, o_getf 3 0), (58, o_getf 1 3), (61, o_iload 1 1), (62, o_baload), (63, o_if (fun a => a = 0) 70), (66, o_i 1 1), (67, o_goto 71), (70, o_i 0 1), (71, o_callV (xRun tb_W_useNumber 2) 3 1 0 0), (74, o_aload 0 1), (75, o_aload 0 1), (76, o_getf 3 0), (79, o_getf 1 4), (82, o_iload 1 1), (83, o_iaload), (84, o_callV (xRun tb_W_useNumber 2) 3 1 0 0), (87, o_i 0 1), (88, o_istore 3 1), (89, o_iload 3 1), (90, o_aload 0 1), (91, o_getf 3 0), (94, o_getf 1 4), (97, o_iload 1 1), (98, o_iaload), (99, o_ic (fun a b => b ≤ a) 165), (102, o_iload 1 1), (103, o_iload 3 1), (104, o_call (xRun tb_S_number 2) 2 0 0), (107, o_istore 4 2), (109, o_aload 0 1), (110, o_aload 0 1), (111, o_getf 3 0), (114, o_getf 1 6), (117, o_iload 4 2), (119, o_laload), (120, o_callV (xRun tb_W_useText 3) 3 1 0 0), (123, o_aload 0 1), (124, o_aload 0 1), (125, o_getf 3 0), (128, o_getf 1 8), (131, o_iload 4 2), (133, o_laload), (134, o_callV (xRun tb_W_useDescriptor 6) 3 1 0 0), (137, o_aload 0 1), (138, o_aload 0 1), (139, o_getf 3 0), (142, o_getf 1 9), (145, o_iload 4 2), (147, o_baload), (148, o_if (fun a => a = 0) 155), (151, o_i 1 1), (152, o_goto 156), (155, o_i 0 1), (156, o_callV (xRun tb_W_useNumber 2) 3 1 0 0), (159, o_iinc 3 1), (162, o_goto 89), (165, o_aload 0 1), (166, o_callV (xRun tb_W_end 2) 3 0 0 0), (169, o_vret)]
abbrev y_W_compose : MethodName := ⟨"NameMover$ClassWriter", "compose", "(I)V"⟩
abbrev rm_W_compose : Room := { frames := 4, cells := 0, slots := 0, locals := 94 }
abbrev ws_W_compose : List Cond := Cond.code y_W_compose prog_4_method_2_code 5 (none) :: xtt
set_option maxRecDepth 100000 in
theorem v_W_compose : ∀ q ∈ tb_W_compose, xSd (0, 0) x0 xCl "NameMover$ClassWriter" ws_W_compose prog_4_method_2_code 5 (none) rm_W_compose q :=
  xval (s_aload_n (f := 0) (by decide +kernel) rfl) (
  xval (s_callV (i := 33) c_W_begin (by decide +kernel) rfl (xtt_good tw_592) rfl (tc tw_589) (tc tw_591) (tc ts_7) (tc tw_4) ⟨by decide, by decide, by decide +kernel⟩ ⟨by decide, by decide, rfl, rfl, by decide, by decide⟩ x0_e) (
  xval (s_aload_n (f := 0) (by decide +kernel) rfl) (
  xval (s_aload_n (f := 0) (by decide +kernel) rfl) (
  xval (s_getf (i := 25) (by decide +kernel) rfl tin_W (by decide) (tc tw_109)) (
  xval (s_getf (i := 36) (by decide +kernel) rfl tin_S (by decide) (tc tw_34)) (
  xval (s_iload_n (f := 1) (by decide +kernel) rfl) (
  xval (s_laload (by decide +kernel)) (
  xval (s_callV (i := 42) c_W_useText (by decide +kernel) rfl (xtt_good tw_610) rfl (tc tw_607) (tc tw_609) (tc ts_8) (tc tw_4) ⟨by decide, by decide, by decide +kernel⟩ ⟨by decide, by decide, rfl, rfl, by decide, by decide⟩ x0_e) (
  xval (s_aload_n (f := 0) (by decide +kernel) rfl) (
  xval (s_getf (i := 25) (by decide +kernel) rfl tin_W (by decide) (tc tw_109)) (
  xval (s_getf (i := 46) (by decide +kernel) rfl tin_S (by decide) (tc tw_41)) (
  xval (s_iload_n (f := 1) (by decide +kernel) rfl) (
  xval (s_iaload (by decide +kernel)) (
  xval (s_istore_n (f := 2) (by decide +kernel) rfl (by decide)) (
  xval (s_iload_n (f := 2) (by decide +kernel) rfl) (
  xval (s_iconst (z := (-1)) (by decide +kernel) (by decide)) (
  xval (s_icne (z := 11) (by decide +kernel) (by decide)) (
  xval (s_aload_n (f := 0) (by decide +kernel) rfl) (
  xval (s_iconst (z := 0) (by decide +kernel) (by decide)) (
  xval (s_callV (i := 49) c_W_useNumber (by decide +kernel) rfl (xtt_good tw_648) rfl (tc tw_645) (tc tw_647) (tc ts_12) (tc tw_4) ⟨by decide, by decide, by decide +kernel⟩ ⟨by decide, by decide, rfl, rfl, by decide, by decide⟩ x0_e) (
  xval (s_goto (z := 16) (by decide +kernel) (by decide)) (
  xval (s_aload_n (f := 0) (by decide +kernel) rfl) (
  xval (s_aload_n (f := 0) (by decide +kernel) rfl) (
  xval (s_getf (i := 25) (by decide +kernel) rfl tin_W (by decide) (tc tw_109)) (
  xval (s_getf (i := 36) (by decide +kernel) rfl tin_S (by decide) (tc tw_34)) (
  xval (s_iload_n (f := 2) (by decide +kernel) rfl) (
  xval (s_laload (by decide +kernel)) (
  xval (s_callV (i := 42) c_W_useText (by decide +kernel) rfl (xtt_good tw_610) rfl (tc tw_607) (tc tw_609) (tc ts_8) (tc tw_4) ⟨by decide, by decide, by decide +kernel⟩ ⟨by decide, by decide, rfl, rfl, by decide, by decide⟩ x0_e) (
  xval (s_aload_n (f := 0) (by decide +kernel) rfl) (
  xval (s_aload_n (f := 0) (by decide +kernel) rfl) (
  xval (s_getf (i := 25) (by decide +kernel) rfl tin_W (by decide) (tc tw_109)) (
  xval (s_getf (i := 53) (by decide +kernel) rfl tin_S (by decide) (tc tw_43)) (
  xval (s_iload_n (f := 1) (by decide +kernel) rfl) (
  xval (s_baload (by decide +kernel)) (
  xval (s_ifeq (z := 7) (by decide +kernel) (by decide)) (
  xval (s_iconst (z := 1) (by decide +kernel) (by decide)) (
  xval (s_goto (z := 4) (by decide +kernel) (by decide)) (
  xval (s_iconst (z := 0) (by decide +kernel) (by decide)) (
  xval (s_callV (i := 49) c_W_useNumber (by decide +kernel) rfl (xtt_good tw_648) rfl (tc tw_645) (tc tw_647) (tc ts_12) (tc tw_4) ⟨by decide, by decide, by decide +kernel⟩ ⟨by decide, by decide, rfl, rfl, by decide, by decide⟩ x0_e) (
  xval (s_aload_n (f := 0) (by decide +kernel) rfl) (
  xval (s_aload_n (f := 0) (by decide +kernel) rfl) (
  xval (s_getf (i := 25) (by decide +kernel) rfl tin_W (by decide) (tc tw_109)) (
  xval (s_getf (i := 57) (by decide +kernel) rfl tin_S (by decide) (tc tw_46)) (
  xval (s_iload_n (f := 1) (by decide +kernel) rfl) (
  xval (s_iaload (by decide +kernel)) (
  xval (s_callV (i := 49) c_W_useNumber (by decide +kernel) rfl (xtt_good tw_648) rfl (tc tw_645) (tc tw_647) (tc ts_12) (tc tw_4) ⟨by decide, by decide, by decide +kernel⟩ ⟨by decide, by decide, rfl, rfl, by decide, by decide⟩ x0_e) (
  xval (s_iconst (z := 0) (by decide +kernel) (by decide)) (
  xval (s_istore_n (f := 3) (by decide +kernel) rfl (by decide)) (
  xval (s_iload_n (f := 3) (by decide +kernel) rfl) (
  xval (s_aload_n (f := 0) (by decide +kernel) rfl) (
  xval (s_getf (i := 25) (by decide +kernel) rfl tin_W (by decide) (tc tw_109)) (
  xval (s_getf (i := 57) (by decide +kernel) rfl tin_S (by decide) (tc tw_46)) (
  xval (s_iload_n (f := 1) (by decide +kernel) rfl) (
  xval (s_iaload (by decide +kernel)) (
  xval (s_icge (z := 66) (by decide +kernel) (by decide)) (
  xval (s_iload_n (f := 1) (by decide +kernel) rfl) (
  xval (s_iload_n (f := 3) (by decide +kernel) rfl) (
  xval (s_callS (i := 60) c_S_number (by decide +kernel) rfl (xtt_good tw_446) (tc tw_649) (tc tw_445) (tc tw_2) ⟨by decide, by decide, by decide +kernel⟩ ⟨by decide, by decide, rfl, rfl, by decide, by decide⟩ x0_e) (
  xval (s_istore (by decide +kernel) (by decide)) (
  xval (s_aload_n (f := 0) (by decide +kernel) rfl) (
  xval (s_aload_n (f := 0) (by decide +kernel) rfl) (
  xval (s_getf (i := 25) (by decide +kernel) rfl tin_W (by decide) (tc tw_109)) (
  xval (s_getf (i := 64) (by decide +kernel) rfl tin_S (by decide) (tc tw_49)) (
  xval (s_iload (by decide +kernel)) (
  xval (s_laload (by decide +kernel)) (
  xval (s_callV (i := 42) c_W_useText (by decide +kernel) rfl (xtt_good tw_610) rfl (tc tw_607) (tc tw_609) (tc ts_8) (tc tw_4) ⟨by decide, by decide, by decide +kernel⟩ ⟨by decide, by decide, rfl, rfl, by decide, by decide⟩ x0_e) (
  xval (s_aload_n (f := 0) (by decide +kernel) rfl) (
  xval (s_aload_n (f := 0) (by decide +kernel) rfl) (
  xval (s_getf (i := 25) (by decide +kernel) rfl tin_W (by decide) (tc tw_109)) (
  xval (s_getf (i := 67) (by decide +kernel) rfl tin_S (by decide) (tc tw_56)) (
  xval (s_iload (by decide +kernel)) (
  xval (s_laload (by decide +kernel)) (
  xval (s_callV (i := 70) c_W_useDescriptor (by decide +kernel) rfl (xtt_good tw_653) rfl (tc tw_650) (tc tw_652) (tc ts_13) (tc tw_4) ⟨by decide, by decide, by decide +kernel⟩ ⟨by decide, by decide, rfl, rfl, by decide, by decide⟩ x0_e) (
  xval (s_aload_n (f := 0) (by decide +kernel) rfl) (
  xval (s_aload_n (f := 0) (by decide +kernel) rfl) (
  xval (s_getf (i := 25) (by decide +kernel) rfl tin_W (by decide) (tc tw_109)) (
  xval (s_getf (i := 73) (by decide +kernel) rfl tin_S (by decide) (tc tw_59)) (
  xval (s_iload (by decide +kernel)) (
  xval (s_baload (by decide +kernel)) (
  xval (s_ifeq (z := 7) (by decide +kernel) (by decide)) (
  xval (s_iconst (z := 1) (by decide +kernel) (by decide)) (
  xval (s_goto (z := 4) (by decide +kernel) (by decide)) (
  xval (s_iconst (z := 0) (by decide +kernel) (by decide)) (
  xval (s_callV (i := 49) c_W_useNumber (by decide +kernel) rfl (xtt_good tw_648) rfl (tc tw_645) (tc tw_647) (tc ts_12) (tc tw_4) ⟨by decide, by decide, by decide +kernel⟩ ⟨by decide, by decide, rfl, rfl, by decide, by decide⟩ x0_e) (
  xval (s_iinc (z := 1) (by decide +kernel) (by decide) (by decide)) (
  xval (s_goto (z := (-73)) (by decide +kernel) (by decide)) (
  xval (s_aload_n (f := 0) (by decide +kernel) rfl) (
  xval (s_callV (i := 76) c_W_end (by decide +kernel) rfl (xtt_good tw_658) rfl (tc tw_655) (tc tw_657) (tc ts_14) (tc tw_4) ⟨by decide, by decide, by decide +kernel⟩ ⟨by decide, by decide, rfl, rfl, by decide, by decide⟩ x0_e) (
  xval (s_vret (by decide +kernel)) (
  xval_nil))))))))))))))))))))))))))))))))))))))))))))))))))))))))))))))))))))))))))))))))))))))))))
theorem c_W_compose : xMet xCl y_W_compose ws_W_compose rm_W_compose (xRun tb_W_compose 5) := xMet.of (by decide) rfl v_W_compose
