def tb_N_write : xT := [(0, o_aload 0 1), (1, o_iload 1 1), (2, o_callV (xRun tb_N_requireClass 2) 0 1 1 1), (5, o_aload 0 1), (6, o_getf 0 3), (9, o_iload 1 1), (10, o_callV (xRun tb_W_compose 5) 3 1 1 0), (13, o_aload 0 1), (14, o_getf 0 1), (17, o_callV (xRun tb_B_size 1) 2 0 1 0), (20, o_iret)]
abbrev y_N_write : MethodName := ⟨"NameMover", "write", "(I)I"⟩
abbrev rm_N_write : Room := { frames := 7, cells := 1, slots := 6, locals := 118 }
abbrev ws_N_write : List Cond := Cond.code y_N_write prog_1_method_14_code 2 (some .int) :: xtt
set_option maxRecDepth 100000 in
theorem v_N_write : ∀ q ∈ tb_N_write, xSd (0, 0) x0 xCl "NameMover" ws_N_write prog_1_method_14_code 2 (some .int) rm_N_write q :=
  xval (s_aload_n (f := 0) (by decide +kernel) rfl) (
  xval (s_iload_n (f := 1) (by decide +kernel) rfl) (
  xval (s_callV (i := 95) c_N_requireClass (by decide +kernel) rfl (xtt_good tw_412) rfl (tc tw_409) (tc tw_411) (tc ts_1) (tc tw_1) ⟨by decide, by decide, by decide +kernel⟩ ⟨by decide, by decide, rfl, rfl, by decide, by decide⟩ x0_e) (
  xval (s_aload_n (f := 0) (by decide +kernel) rfl) (
  xval (s_getf (i := 31) (by decide +kernel) rfl tin_N (by decide) (tc tw_153)) (
  xval (s_iload_n (f := 1) (by decide +kernel) rfl) (
  xval (s_callV (i := 186) c_W_compose (by decide +kernel) rfl (xtt_good tw_588) rfl (tc tw_585) (tc tw_586) (tc tw_587) (tc tw_4) ⟨by decide, by decide, by decide +kernel⟩ ⟨by decide, by decide, rfl, rfl, by decide, by decide⟩ x0_e) (
  xval (s_aload_n (f := 0) (by decide +kernel) rfl) (
  xval (s_getf (i := 19) (by decide +kernel) rfl tin_N (by decide) (tc tw_151)) (
  xval (s_callV (i := 189) c_B_size (by decide +kernel) rfl (xtt_good tw_618) rfl (tc tw_659) (tc tw_616) (tc tw_617) (tc tw_3) ⟨by decide, by decide, by decide +kernel⟩ ⟨by decide, by decide, rfl, rfl, by decide, by decide⟩ x0_e) (
  xval (s_iret (by decide +kernel)) (
  xval_nil)))))))))))
theorem c_N_write : xMet xCl y_N_write ws_N_write rm_N_write (xRun tb_N_write 2) := xMet.of (by decide) rfl v_N_write
def tb_N_requireByte : xT := [(0, o_aload 0 1), (1, o_getf 0 1), (4, o_iload 1 1), (5, o_callV (xRun tb_B_has 2) 2 1 1 0), (8, o_ifn (fun a => a = 0) 21), (11, o_throw 1 1), (21, o_vret)]
abbrev y_N_requireByte : MethodName := ⟨"NameMover", "requireByte", "(I)V"⟩
abbrev rm_N_requireByte : Room := { frames := 6, cells := 1, slots := 6, locals := 82 }
abbrev ws_N_requireByte : List Cond := Cond.code y_N_requireByte prog_1_method_21_code 2 (none) :: xtt
set_option maxRecDepth 100000 in
theorem v_N_requireByte : ∀ q ∈ tb_N_requireByte, xSd (0, 0) x0 xCl "NameMover" ws_N_requireByte prog_1_method_21_code 2 (none) rm_N_requireByte q :=
  xval (s_aload_n (f := 0) (by decide +kernel) rfl) (
  xval (s_getf (i := 19) (by decide +kernel) rfl tin_N (by decide) (tc tw_151)) (
  xval (s_iload_n (f := 1) (by decide +kernel) rfl) (
  xval (s_callV (i := 223) c_B_has (by decide +kernel) rfl (xtt_good tw_636) rfl (tc tw_671) (tc tw_634) (tc tw_635) (tc tw_3) ⟨by decide, by decide, by decide +kernel⟩ ⟨by decide, by decide, rfl, rfl, by decide, by decide⟩ x0_e) (
  xval (s_ifne (z := 13) (by decide +kernel) (by decide)) (
  xval (s_throw (i := 62) (ik := 226) (ic := 66) (j := 7) (bs := prog_15_method_2_code) (tx := "no such byte") (by decide +kernel) (by decide +kernel) (by decide +kernel) (by decide +kernel) (by decide +kernel) (tc tw_349) (tc tw_350) (tc tw_12) (tc tw_672) (by decide +kernel) (by decide +kernel) (by decide +kernel) (by decide +kernel) (by decide +kernel) (tow_1 (tc tw_359)) ⟨by decide, by decide, by decide, by decide⟩ x0_e) (
  xval (s_vret (by decide +kernel)) (
  xval_nil)))))))
theorem c_N_requireByte : xMet xCl y_N_requireByte ws_N_requireByte rm_N_requireByte (xRun tb_N_requireByte 2) := xMet.of (by decide) rfl v_N_requireByte
def tb_N_byteAt : xT := [(0, o_aload 0 1), (1, o_iload 1 1), (2, o_callV (xRun tb_N_requireByte 2) 0 1 1 1), (5, o_aload 0 1), (6, o_getf 0 1), (9, o_iload 1 1), (10, o_callV (xRun tb_B_get 2) 2 1 1 0), (13, o_iret)]
abbrev y_N_byteAt : MethodName := ⟨"NameMover", "byteAt", "(I)I"⟩
abbrev rm_N_byteAt : Room := { frames := 7, cells := 1, slots := 6, locals := 103 }
abbrev ws_N_byteAt : List Cond := Cond.code y_N_byteAt prog_1_method_15_code 2 (some .int) :: xtt
set_option maxRecDepth 100000 in
theorem v_N_byteAt : ∀ q ∈ tb_N_byteAt, xSd (0, 0) x0 xCl "NameMover" ws_N_byteAt prog_1_method_15_code 2 (some .int) rm_N_byteAt q :=
  xval (s_aload_n (f := 0) (by decide +kernel) rfl) (
  xval (s_iload_n (f := 1) (by decide +kernel) rfl) (
  xval (s_callV (i := 192) c_N_requireByte (by decide +kernel) rfl (xtt_good tw_670) rfl (tc tw_667) (tc tw_669) (tc ts_15) (tc tw_1) ⟨by decide, by decide, by decide +kernel⟩ ⟨by decide, by decide, rfl, rfl, by decide, by decide⟩ x0_e) (
  xval (s_aload_n (f := 0) (by decide +kernel) rfl) (
  xval (s_getf (i := 19) (by decide +kernel) rfl tin_N (by decide) (tc tw_151)) (
  xval (s_iload_n (f := 1) (by decide +kernel) rfl) (
  xval (s_callV (i := 195) c_B_get (by decide +kernel) rfl (xtt_good tw_644) rfl (tc tw_673) (tc tw_642) (tc tw_643) (tc tw_3) ⟨by decide, by decide, by decide +kernel⟩ ⟨by decide, by decide, rfl, rfl, by decide, by decide⟩ x0_e) (
  xval (s_iret (by decide +kernel)) (
  xval_nil))))))))
theorem c_N_byteAt : xMet xCl y_N_byteAt ws_N_byteAt rm_N_byteAt (xRun tb_N_byteAt 2) := xMet.of (by decide) rfl v_N_byteAt
def tb_N_poke : xT := [(0, o_aload 0 1), (1, o_iload 1 1), (2, o_callV (xRun tb_N_requireByte 2) 0 1 1 1), (5, o_iload 2 1), (6, o_if (fun a => a < 0) 16), (9, o_iload 2 1), (10, o_i 255 3), (13, o_ic (fun a b => a ≤ b) 26), (16, o_throw 0 1), (26, o_aload 0 1), (27, o_getf 0 1), (30, o_iload 1 1), (31, o_iload 2 1), (32, o_callV (xRun tb_B_set 3) 2 2 1 0), (35, o_vret)]
abbrev y_N_poke : MethodName := ⟨"NameMover", "poke", "(II)V"⟩
abbrev rm_N_poke : Room := { frames := 7, cells := 1, slots := 6, locals := 103 }
abbrev ws_N_poke : List Cond := Cond.code y_N_poke prog_1_method_16_code 3 (none) :: xtt
set_option maxRecDepth 100000 in
theorem v_N_poke : ∀ q ∈ tb_N_poke, xSd (0, 0) x0 xCl "NameMover" ws_N_poke prog_1_method_16_code 3 (none) rm_N_poke q :=
  xval (s_aload_n (f := 0) (by decide +kernel) rfl) (
  xval (s_iload_n (f := 1) (by decide +kernel) rfl) (
  xval (s_callV (i := 192) c_N_requireByte (by decide +kernel) rfl (xtt_good tw_670) rfl (tc tw_667) (tc tw_669) (tc ts_15) (tc tw_1) ⟨by decide, by decide, by decide +kernel⟩ ⟨by decide, by decide, rfl, rfl, by decide, by decide⟩ x0_e) (
  xval (s_iload_n (f := 2) (by decide +kernel) rfl) (
  xval (s_iflt (z := 10) (by decide +kernel) (by decide)) (
  xval (s_iload_n (f := 2) (by decide +kernel) rfl) (
  xval (s_sipush (z := 255) (by decide +kernel) (by decide)) (
  xval (s_icle (z := 13) (by decide +kernel) (by decide)) (
  xval (s_throw (i := 51) (ik := 199) (ic := 55) (j := 7) (bs := prog_13_method_2_code) (tx := "no byte") (by decide +kernel) (by decide +kernel) (by decide +kernel) (by decide +kernel) (by decide +kernel) (tc tw_279) (tc tw_280) (tc tw_11) (tc tw_681) (by decide +kernel) (by decide +kernel) (by decide +kernel) (by decide +kernel) (by decide +kernel) (tow_0 (tc tw_322)) ⟨by decide, by decide, by decide, by decide⟩ x0_e) (
  xval (s_aload_n (f := 0) (by decide +kernel) rfl) (
  xval (s_getf (i := 19) (by decide +kernel) rfl tin_N (by decide) (tc tw_151)) (
  xval (s_iload_n (f := 1) (by decide +kernel) rfl) (
  xval (s_iload_n (f := 2) (by decide +kernel) rfl) (
  xval (s_callV (i := 201) c_B_set (by decide +kernel) rfl (xtt_good tw_632) rfl (tc tw_682) (tc tw_630) (tc tw_631) (tc tw_3) ⟨by decide, by decide, by decide +kernel⟩ ⟨by decide, by decide, rfl, rfl, by decide, by decide⟩ x0_e) (
  xval (s_vret (by decide +kernel)) (
  xval_nil)))))))))))))))
theorem c_N_poke : xMet xCl y_N_poke ws_N_poke rm_N_poke (xRun tb_N_poke 3) := xMet.of (by decide) rfl v_N_poke
def tb_R_skipPool : xT := [(0, o_aload 0 1), (1, o_aload 0 1), (2, o_getf 4 1), (5, o_i 1 1), (6, o_callV (xRun tb_B_get 2) 2 1 0 0), (9, o_puti 4 3), (12, o_aload 0 1), (13, o_i 2 1), (14, o_puti 4 4), (17, o_aload 0 1), (18, o_getf 4 3), (21, o_i 14 2), (23, o_ic (fun a b => a ≤ b) 28), (26, o_i 0 1), (27, o_zret), (28, o_i 1 1), (29, o_istore 1 1), (30, o_iload 1 1), (31, o_aload 0 1), (32, o_getf 4 3), (35, o_ic (fun a b => b < a) 76), (38, o_aload 0 1), (39, o_getf 4 2), (42, o_iload 1 1), (43, o_aload 0 1), (44, o_getf 4 4), (47, o_iastore), (48, o_aload 0 1), (49, o_dup), (50, o_getf 4 4), (53, o_i 1 1), (54, o_aload 0 1), (55, o_getf 4 1), (58, o_aload 0 1), (59, o_getf 4 4), (62, o_callV (xRun tb_B_get 2) 2 1 0 0), (65, o_ii (fun a b => a + b)), (66, o_ii (fun a b => a + b)), (67, o_puti 4 4), (70, o_iinc 1 1), (73, o_goto 30), (76, o_aload 0 1), (77, o_getf 4 4), (80, o_aload 0 1), (81, o_getf 4 1), (84, o_callV (xRun tb_B_size 1) 2 0 0 0), (87, o_ic (fun a b => b < a) 94), (90, o_i 1 1), (91, o_goto 95), (94, o_i 0 1), (95, o_zret)]
abbrev y_R_skipPool : MethodName := ⟨"NameMover$ClassReader", "skipPool", "()Z"⟩
abbrev rm_R_skipPool : Room := { frames := 1, cells := 0, slots := 0, locals := 21 }
abbrev ws_R_skipPool : List Cond := Cond.code y_R_skipPool prog_3_method_4_code 2 (some .boolean) :: xtt
set_option maxRecDepth 100000 in
theorem v_R_skipPool : ∀ q ∈ tb_R_skipPool, xSd (0, 0) x0 xCl "NameMover$ClassReader" ws_R_skipPool prog_3_method_4_code 2 (some .boolean) rm_R_skipPool q :=
  xval (s_aload_n (f := 0) (by decide +kernel) rfl) (
  xval (s_aload_n (f := 0) (by decide +kernel) rfl) (
  xval (s_getf (i := 26) (by decide +kernel) rfl tin_R (by decide) (tc tw_135)) (
  xval (s_iconst (z := 1) (by decide +kernel) (by decide)) (
  xval (s_callV (i := 89) c_B_get (by decide +kernel) rfl (xtt_good tw_644) rfl (tc tw_699) (tc tw_642) (tc tw_643) (tc tw_3) ⟨by decide, by decide, by decide +kernel⟩ ⟨by decide, by decide, rfl, rfl, by decide, by decide⟩ x0_e) (
  xval (s_puti (i := 15) (by decide +kernel) rfl tin_R (by decide) (tc tw_137) tR tR_ok nR rfl (by decide +kernel)) (
  xval (s_aload_n (f := 0) (by decide +kernel) rfl) (
  xval (s_iconst (z := 2) (by decide +kernel) (by decide)) (
  xval (s_puti (i := 19) (by decide +kernel) rfl tin_R (by decide) (tc tw_138) tR tR_ok nR rfl (by decide +kernel)) (
  xval (s_aload_n (f := 0) (by decide +kernel) rfl) (
  xval (s_getf (i := 15) (by decide +kernel) rfl tin_R (by decide) (tc tw_137)) (
  xval (s_bipush (z := 14) (by decide +kernel) (by decide)) (
  xval (s_icle (z := 5) (by decide +kernel) (by decide)) (
  xval (s_iconst (z := 0) (by decide +kernel) (by decide)) (
  xval (s_zret (by decide +kernel)) (
  xval (s_iconst (z := 1) (by decide +kernel) (by decide)) (
  xval (s_istore_n (f := 1) (by decide +kernel) rfl (by decide)) (
  xval (s_iload_n (f := 1) (by decide +kernel) rfl) (
  xval (s_aload_n (f := 0) (by decide +kernel) rfl) (
  xval (s_getf (i := 15) (by decide +kernel) rfl tin_R (by decide) (tc tw_137)) (
  xval (s_icgt (z := 41) (by decide +kernel) (by decide)) (
  xval (s_aload_n (f := 0) (by decide +kernel) rfl) (
  xval (s_getf (i := 9) (by decide +kernel) rfl tin_R (by decide) (tc tw_136)) (
  xval (s_iload_n (f := 1) (by decide +kernel) rfl) (
  xval (s_aload_n (f := 0) (by decide +kernel) rfl) (
  xval (s_getf (i := 19) (by decide +kernel) rfl tin_R (by decide) (tc tw_138)) (
  xval (s_iastore (by decide +kernel)) (
  xval (s_aload_n (f := 0) (by decide +kernel) rfl) (
  xval (s_dup (by decide +kernel)) (
  xval (s_getf (i := 19) (by decide +kernel) rfl tin_R (by decide) (tc tw_138)) (
  xval (s_iconst (z := 1) (by decide +kernel) (by decide)) (
  xval (s_aload_n (f := 0) (by decide +kernel) rfl) (
  xval (s_getf (i := 26) (by decide +kernel) rfl tin_R (by decide) (tc tw_135)) (
  xval (s_aload_n (f := 0) (by decide +kernel) rfl) (
  xval (s_getf (i := 19) (by decide +kernel) rfl tin_R (by decide) (tc tw_138)) (
  xval (s_callV (i := 89) c_B_get (by decide +kernel) rfl (xtt_good tw_644) rfl (tc tw_699) (tc tw_642) (tc tw_643) (tc tw_3) ⟨by decide, by decide, by decide +kernel⟩ ⟨by decide, by decide, rfl, rfl, by decide, by decide⟩ x0_e) (
  xval (s_iadd (by decide +kernel)) (
  xval (s_iadd (by decide +kernel)) (
  xval (s_puti (i := 19) (by decide +kernel) rfl tin_R (by decide) (tc tw_138) tR tR_ok nR rfl (by decide +kernel)) (
  xval (s_iinc (z := 1) (by decide +kernel) (by decide) (by decide)) (
  xval (s_goto (z := (-43)) (by decide +kernel) (by decide)) (
  xval (s_aload_n (f := 0) (by decide +kernel) rfl) (
  xval (s_getf (i := 19) (by decide +kernel) rfl tin_R (by decide) (tc tw_138)) (
  xval (s_aload_n (f := 0) (by decide +kernel) rfl) (
  xval (s_getf (i := 26) (by decide +kernel) rfl tin_R (by decide) (tc tw_135)) (
  xval (s_callV (i := 95) c_B_size (by decide +kernel) rfl (xtt_good tw_618) rfl (tc tw_700) (tc tw_616) (tc tw_617) (tc tw_3) ⟨by decide, by decide, by decide +kernel⟩ ⟨by decide, by decide, rfl, rfl, by decide, by decide⟩ x0_e) (
  xval (s_icgt (z := 7) (by decide +kernel) (by decide)) (
  xval (s_iconst (z := 1) (by decide +kernel) (by decide)) (
  xval (s_goto (z := 4) (by decide +kernel) (by decide)) (
  xval (s_iconst (z := 0) (by decide +kernel) (by decide)) (
  xval (s_zret (by decide +kernel)) (
  xval_nil)))))))))))))))))))))))))))))))))))))))))))))))))))
theorem c_R_skipPool : xMet xCl y_R_skipPool ws_R_skipPool rm_R_skipPool (xRun tb_R_skipPool 2) := xMet.of (by decide) rfl v_R_skipPool
def tb_R_nextByte : xT := [(0, o_aload 0 1), (1, o_dup), (2, o_getf 4 4), (5, o_i 1 1), (6, o_ii (fun a b => a + b)), (7, o_puti 4 4), (10, o_aload 0 1), (11, o_getf 4 1), (14, o_aload 0 1), (15, o_getf 4 4), (18, o_i 1 1), (19, o_ii (fun a b => a - b)), (20, o_callV (xRun tb_B_get 2) 2 1 0 0), (23, o_iret)]
abbrev y_R_nextByte : MethodName := ⟨"NameMover$ClassReader", "nextByte", "()I"⟩
abbrev rm_R_nextByte : Room := { frames := 1, cells := 0, slots := 0, locals := 21 }
abbrev ws_R_nextByte : List Cond := Cond.code y_R_nextByte prog_3_method_5_code 1 (some .int) :: xtt
set_option maxRecDepth 100000 in
theorem v_R_nextByte : ∀ q ∈ tb_R_nextByte, xSd (0, 0) x0 xCl "NameMover$ClassReader" ws_R_nextByte prog_3_method_5_code 1 (some .int) rm_R_nextByte q :=
  xval (s_aload_n (f := 0) (by decide +kernel) rfl) (
  xval (s_dup (by decide +kernel)) (
  xval (s_getf (i := 19) (by decide +kernel) rfl tin_R (by decide) (tc tw_138)) (
  xval (s_iconst (z := 1) (by decide +kernel) (by decide)) (
  xval (s_iadd (by decide +kernel)) (
  xval (s_puti (i := 19) (by decide +kernel) rfl tin_R (by decide) (tc tw_138) tR tR_ok nR rfl (by decide +kernel)) (
  xval (s_aload_n (f := 0) (by decide +kernel) rfl) (
  xval (s_getf (i := 26) (by decide +kernel) rfl tin_R (by decide) (tc tw_135)) (
  xval (s_aload_n (f := 0) (by decide +kernel) rfl) (
  xval (s_getf (i := 19) (by decide +kernel) rfl tin_R (by decide) (tc tw_138)) (
  xval (s_iconst (z := 1) (by decide +kernel) (by decide)) (
  xval (s_isub (by decide +kernel)) (
  xval (s_callV (i := 89) c_B_get (by decide +kernel) rfl (xtt_good tw_644) rfl (tc tw_699) (tc tw_642) (tc tw_643) (tc tw_3) ⟨by decide, by decide, by decide +kernel⟩ ⟨by decide, by decide, rfl, rfl, by decide, by decide⟩ x0_e) (
  xval (s_iret (by decide +kernel)) (
  xval_nil))))))))))))))
theorem c_R_nextByte : xMet xCl y_R_nextByte ws_R_nextByte rm_R_nextByte (xRun tb_R_nextByte 1) := xMet.of (by decide) rfl v_R_nextByte
def tb_R_nextText : xT := [(0, o_aload 0 1), (1, o_callV (xRun tb_R_nextByte 1) 4 0 0 0), (4, o_istore 1 1), (5, o_iload 1 1), (6, o_aload 0 1), (7, o_getf 4 3), (10, o_ic (fun a b => b < a) 17), (13, o_iload 1 1), (14, o_goto 18), (17, o_i 0 1), (18, o_iret)]
abbrev y_R_nextText : MethodName := ⟨"NameMover$ClassReader", "nextText", "()I"⟩
abbrev rm_R_nextText : Room := { frames := 2, cells := 0, slots := 0, locals := 41 }
abbrev ws_R_nextText : List Cond := Cond.code y_R_nextText prog_3_method_6_code 2 (some .int) :: xtt
set_option maxRecDepth 100000 in
theorem v_R_nextText : ∀ q ∈ tb_R_nextText, xSd (0, 0) x0 xCl "NameMover$ClassReader" ws_R_nextText prog_3_method_6_code 2 (some .int) rm_R_nextText q :=
  xval (s_aload_n (f := 0) (by decide +kernel) rfl) (
  xval (s_callV (i := 60) c_R_nextByte (by decide +kernel) rfl (xtt_good tw_708) rfl (tc tw_705) (tc tw_707) (tc ts_18) (tc tw_5) ⟨by decide, by decide, by decide +kernel⟩ ⟨by decide, by decide, rfl, rfl, by decide, by decide⟩ x0_e) (
  xval (s_istore_n (f := 1) (by decide +kernel) rfl (by decide)) (
  xval (s_iload_n (f := 1) (by decide +kernel) rfl) (
  xval (s_aload_n (f := 0) (by decide +kernel) rfl) (
  xval (s_getf (i := 15) (by decide +kernel) rfl tin_R (by decide) (tc tw_137)) (
  xval (s_icgt (z := 7) (by decide +kernel) (by decide)) (
  xval (s_iload_n (f := 1) (by decide +kernel) rfl) (
  xval (s_goto (z := 4) (by decide +kernel) (by decide)) (
  xval (s_iconst (z := 0) (by decide +kernel) (by decide)) (
  xval (s_iret (by decide +kernel)) (
  xval_nil)))))))))))
theorem c_R_nextText : xMet xCl y_R_nextText ws_R_nextText rm_R_nextText (xRun tb_R_nextText 2) := xMet.of (by decide) rfl v_R_nextText
def tb_R_textLength : xT := [(0, o_iload 1 1), (1, o_ifn (fun a => a = 0) 8), (4, o_i 0 1), (5, o_goto 21), (8, o_aload 0 1), (9, o_getf 4 1), (12, o_aload 0 1), (13, o_getf 4 2), (16, o_iload 1 1), (17, o_iaload), (18, o_callV (xRun tb_B_get 2) 2 1 0 0), (21, o_iret)]
abbrev y_R_textLength : MethodName := ⟨"NameMover$ClassReader", "textLength", "(I)I"⟩
abbrev rm_R_textLength : Room := { frames := 1, cells := 0, slots := 0, locals := 21 }
abbrev ws_R_textLength : List Cond := Cond.code y_R_textLength prog_3_method_8_code 2 (some .int) :: xtt
set_option maxRecDepth 100000 in
theorem v_R_textLength : ∀ q ∈ tb_R_textLength, xSd (0, 0) x0 xCl "NameMover$ClassReader" ws_R_textLength prog_3_method_8_code 2 (some .int) rm_R_textLength q :=
  xval (s_iload_n (f := 1) (by decide +kernel) rfl) (
  xval (s_ifne (z := 7) (by decide +kernel) (by decide)) (
  xval (s_iconst (z := 0) (by decide +kernel) (by decide)) (
  xval (s_goto (z := 16) (by decide +kernel) (by decide)) (
  xval (s_aload_n (f := 0) (by decide +kernel) rfl) (
  xval (s_getf (i := 26) (by decide +kernel) rfl tin_R (by decide) (tc tw_135)) (
  xval (s_aload_n (f := 0) (by decide +kernel) rfl) (
  xval (s_getf (i := 9) (by decide +kernel) rfl tin_R (by decide) (tc tw_136)) (
  xval (s_iload_n (f := 1) (by decide +kernel) rfl) (
  xval (s_iaload (by decide +kernel)) (
  xval (s_callV (i := 89) c_B_get (by decide +kernel) rfl (xtt_good tw_644) rfl (tc tw_699) (tc tw_642) (tc tw_643) (tc tw_3) ⟨by decide, by decide, by decide +kernel⟩ ⟨by decide, by decide, rfl, rfl, by decide, by decide⟩ x0_e) (
  xval (s_iret (by decide +kernel)) (
  xval_nil))))))))))))
theorem c_R_textLength : xMet xCl y_R_textLength ws_R_textLength rm_R_textLength (xRun tb_R_textLength 2) := xMet.of (by decide) rfl v_R_textLength
def tb_R_textChar : xT := [(0, o_aload 0 1), (1, o_getf 4 1), (4, o_aload 0 1), (5, o_getf 4 2), (8, o_iload 1 1), (9, o_iaload), (10, o_i 1 1), (11, o_ii (fun a b => a + b)), (12, o_iload 2 1), (13, o_ii (fun a b => a + b)), (14, o_callV (xRun tb_B_get 2) 2 1 0 0), (17, o_iret)]
abbrev y_R_textChar : MethodName := ⟨"NameMover$ClassReader", "textChar", "(II)I"⟩
abbrev rm_R_textChar : Room := { frames := 1, cells := 0, slots := 0, locals := 21 }
abbrev ws_R_textChar : List Cond := Cond.code y_R_textChar prog_3_method_9_code 3 (some .int) :: xtt
set_option maxRecDepth 100000 in
theorem v_R_textChar : ∀ q ∈ tb_R_textChar, xSd (0, 0) x0 xCl "NameMover$ClassReader" ws_R_textChar prog_3_method_9_code 3 (some .int) rm_R_textChar q :=
  xval (s_aload_n (f := 0) (by decide +kernel) rfl) (
  xval (s_getf (i := 26) (by decide +kernel) rfl tin_R (by decide) (tc tw_135)) (
  xval (s_aload_n (f := 0) (by decide +kernel) rfl) (
  xval (s_getf (i := 9) (by decide +kernel) rfl tin_R (by decide) (tc tw_136)) (
  xval (s_iload_n (f := 1) (by decide +kernel) rfl) (
  xval (s_iaload (by decide +kernel)) (
  xval (s_iconst (z := 1) (by decide +kernel) (by decide)) (
  xval (s_iadd (by decide +kernel)) (
  xval (s_iload_n (f := 2) (by decide +kernel) rfl) (
  xval (s_iadd (by decide +kernel)) (
  xval (s_callV (i := 89) c_B_get (by decide +kernel) rfl (xtt_good tw_644) rfl (tc tw_699) (tc tw_642) (tc tw_643) (tc tw_3) ⟨by decide, by decide, by decide +kernel⟩ ⟨by decide, by decide, rfl, rfl, by decide, by decide⟩ x0_e) (
  xval (s_iret (by decide +kernel)) (
  xval_nil))))))))))))
theorem c_R_textChar : xMet xCl y_R_textChar ws_R_textChar rm_R_textChar (xRun tb_R_textChar 3) := xMet.of (by decide) rfl v_R_textChar
def tb_R_shortText3 : xT := [(0, o_iload 3 1), (1, o_iload 2 1), (2, o_ii (fun a b => a - b)), (3, o_i 8 2), (5, o_ic (fun a b => a ≤ b) 10), (8, o_l 0 1), (9, o_lret), (10, o_l 0 1), (11, o_lstore 4 2), (13, o_iload 2 1), (14, o_istore 6 2), (16, o_iload 6 2), (18, o_iload 3 1), (19, o_ic (fun a b => b ≤ a) 47), (22, o_lload 4 2), (24, o_aload 0 1), (25, o_iload 1 1), (26, o_iload 6 2), (28, o_callV (xRun tb_R_textChar 3) 4 2 0 0), (31, o_iload 6 2), (33, o_iload 2 1), (34, o_ii (fun a b => a - b)), (35, o_call (xRun tb_T_placed 2) 2 0 0), (38, o_ll (fun a b => a ||| b)), (39, o_lstore 4 2), (41, o_iinc 6 1), (44, o_goto 16), (47, o_lload 4 2), (49, o_lret)]
abbrev y_R_shortText3 : MethodName := ⟨"NameMover$ClassReader", "shortText", "(III)J"⟩
abbrev rm_R_shortText3 : Room := { frames := 2, cells := 0, slots := 0, locals := 43 }
abbrev ws_R_shortText3 : List Cond := Cond.code y_R_shortText3 prog_3_method_11_code 7 (some .long) :: xtt
set_option maxRecDepth 100000 in
theorem v_R_shortText3 : ∀ q ∈ tb_R_shortText3, xSd (0, 0) x0 xCl "NameMover$ClassReader" ws_R_shortText3 prog_3_method_11_code 7 (some .long) rm_R_shortText3 q :=
  xval (s_iload_n (f := 3) (by decide +kernel) rfl) (
  xval (s_iload_n (f := 2) (by decide +kernel) rfl) (
  xval (s_isub (by decide +kernel)) (
  xval (s_bipush (z := 8) (by decide +kernel) (by decide)) (
  xval (s_icle (z := 5) (by decide +kernel) (by decide)) (
  xval (s_lconst (z := 0) (by decide +kernel) (by decide)) (
  xval (s_lret (by decide +kernel)) (
  xval (s_lconst (z := 0) (by decide +kernel) (by decide)) (
  xval (s_lstore (by decide +kernel) (by decide)) (
  xval (s_iload_n (f := 2) (by decide +kernel) rfl) (
  xval (s_istore (by decide +kernel) (by decide)) (
  xval (s_iload (by decide +kernel)) (
  xval (s_iload_n (f := 3) (by decide +kernel) rfl) (
  xval (s_icge (z := 28) (by decide +kernel) (by decide)) (
  xval (s_lload (by decide +kernel)) (
  xval (s_aload_n (f := 0) (by decide +kernel) rfl) (
  xval (s_iload_n (f := 1) (by decide +kernel) rfl) (
  xval (s_iload (by decide +kernel)) (
  xval (s_callV (i := 104) c_R_textChar (by decide +kernel) rfl (xtt_good tw_724) rfl (tc tw_721) (tc tw_723) (tc ts_22) (tc tw_5) ⟨by decide, by decide, by decide +kernel⟩ ⟨by decide, by decide, rfl, rfl, by decide, by decide⟩ x0_e) (
  xval (s_iload (by decide +kernel)) (
  xval (s_iload_n (f := 2) (by decide +kernel) rfl) (
  xval (s_isub (by decide +kernel)) (
  xval (s_callS (i := 108) c_T_placed (by decide +kernel) rfl (xtt_good tw_486) (tc tw_725) (tc tw_485) (tc tw_7) ⟨by decide, by decide, by decide +kernel⟩ ⟨by decide, by decide, rfl, rfl, by decide, by decide⟩ x0_e) (
  xval (s_lor (by decide +kernel)) (
  xval (s_lstore (by decide +kernel) (by decide)) (
  xval (s_iinc (z := 1) (by decide +kernel) (by decide) (by decide)) (
  xval (s_goto (z := (-28)) (by decide +kernel) (by decide)) (
  xval (s_lload (by decide +kernel)) (
  xval (s_lret (by decide +kernel)) (
  xval_nil)))))))))))))))))))))))))))))
theorem c_R_shortText3 : xMet xCl y_R_shortText3 ws_R_shortText3 rm_R_shortText3 (xRun tb_R_shortText3 7) := xMet.of (by decide) rfl v_R_shortText3
def tb_R_shortText1 : xT := [(0, o_aload 0 1), (1, o_iload 1 1), (2, o_i 0 1), (3, o_aload 0 1), (4, o_iload 1 1), (5, o_callV (xRun tb_R_textLength 2) 4 1 0 0), (8, o_callV (xRun tb_R_shortText3 7) 4 3 0 0), (11, o_lret)]
abbrev y_R_shortText1 : MethodName := ⟨"NameMover$ClassReader", "shortText", "(I)J"⟩
abbrev rm_R_shortText1 : Room := { frames := 3, cells := 0, slots := 0, locals := 69 }
abbrev ws_R_shortText1 : List Cond := Cond.code y_R_shortText1 prog_3_method_10_code 2 (some .long) :: xtt
set_option maxRecDepth 100000 in
theorem v_R_shortText1 : ∀ q ∈ tb_R_shortText1, xSd (0, 0) x0 xCl "NameMover$ClassReader" ws_R_shortText1 prog_3_method_10_code 2 (some .long) rm_R_shortText1 q :=
  xval (s_aload_n (f := 0) (by decide +kernel) rfl) (
  xval (s_iload_n (f := 1) (by decide +kernel) rfl) (
  xval (s_iconst (z := 0) (by decide +kernel) (by decide)) (
  xval (s_aload_n (f := 0) (by decide +kernel) rfl) (
  xval (s_iload_n (f := 1) (by decide +kernel) rfl) (
  xval (s_callV (i := 98) c_R_textLength (by decide +kernel) rfl (xtt_good tw_716) rfl (tc tw_713) (tc tw_715) (tc ts_20) (tc tw_5) ⟨by decide, by decide, by decide +kernel⟩ ⟨by decide, by decide, rfl, rfl, by decide, by decide⟩ x0_e) (
  xval (s_callV (i := 101) c_R_shortText3 (by decide +kernel) rfl (xtt_good tw_720) rfl (tc tw_717) (tc tw_719) (tc ts_21) (tc tw_5) ⟨by decide, by decide, by decide +kernel⟩ ⟨by decide, by decide, rfl, rfl, by decide, by decide⟩ x0_e) (
  xval (s_lret (by decide +kernel)) (
  xval_nil))))))))
theorem c_R_shortText1 : xMet xCl y_R_shortText1 ws_R_shortText1 rm_R_shortText1 (xRun tb_R_shortText1 2) := xMet.of (by decide) rfl v_R_shortText1
def tb_R_nextSuperclass : xT := [(0, o_aload 0 1), (1, o_callV (xRun tb_R_nextByte 1) 4 0 0 0), (4, o_istore 1 1), (5, o_iload 1 1), (6, o_ifn (fun a => a = 0) 11), (9, o_i (-1) 1), (10, o_iret), (11, o_iload 1 1), (12, o_aload 0 1), (13, o_getf 4 3), (16, o_ic (fun a b => a ≤ b) 23), (19, o_i (-1) 1), (20, o_goto 42), (23, o_aload 0 1), (24, o_getf 4 0), (27, o_aload 0 1), (28, o_iload 1 1), (29, o_callV (xRun tb_R_shortText1 2) 4 1 0 0), (32, o_aload 0 1), (33, o_getf 4 0), (36, o_getf 1 10), (39, o_callV (xRun tb_S_classNamed 5) 1 2 0 0), (42, o_istore 2 1), (43, o_iload 2 1), (44, o_i (-1) 1), (45, o_icn (fun a b => a = b) 53), (48, o_i (-2) 2), (50, o_goto 54), (53, o_iload 2 1), (54, o_iret)]
abbrev y_R_nextSuperclass : MethodName := ⟨"NameMover$ClassReader", "nextSuperclass", "()I"⟩
abbrev rm_R_nextSuperclass : Room := { frames := 4, cells := 0, slots := 0, locals := 90 }
abbrev ws_R_nextSuperclass : List Cond := Cond.code y_R_nextSuperclass prog_3_method_7_code 3 (some .int) :: xtt
set_option maxRecDepth 100000 in
theorem v_R_nextSuperclass : ∀ q ∈ tb_R_nextSuperclass, xSd (0, 0) x0 xCl "NameMover$ClassReader" ws_R_nextSuperclass prog_3_method_7_code 3 (some .int) rm_R_nextSuperclass q :=
  xval (s_aload_n (f := 0) (by decide +kernel) rfl) (
  xval (s_callV (i := 60) c_R_nextByte (by decide +kernel) rfl (xtt_good tw_708) rfl (tc tw_705) (tc tw_707) (tc ts_18) (tc tw_5) ⟨by decide, by decide, by decide +kernel⟩ ⟨by decide, by decide, rfl, rfl, by decide, by decide⟩ x0_e) (
  xval (s_istore_n (f := 1) (by decide +kernel) rfl (by decide)) (
  xval (s_iload_n (f := 1) (by decide +kernel) rfl) (
  xval (s_ifne (z := 5) (by decide +kernel) (by decide)) (
  xval (s_iconst (z := (-1)) (by decide +kernel) (by decide)) (
  xval (s_iret (by decide +kernel)) (
  xval (s_iload_n (f := 1) (by decide +kernel) rfl) (
  xval (s_aload_n (f := 0) (by decide +kernel) rfl) (
  xval (s_getf (i := 15) (by decide +kernel) rfl tin_R (by decide) (tc tw_137)) (
  xval (s_icle (z := 7) (by decide +kernel) (by decide)) (
  xval (s_iconst (z := (-1)) (by decide +kernel) (by decide)) (
  xval (s_goto (z := 22) (by decide +kernel) (by decide)) (
  xval (s_aload_n (f := 0) (by decide +kernel) rfl) (
  xval (s_getf (i := 22) (by decide +kernel) rfl tin_R (by decide) (tc tw_134)) (
  xval (s_aload_n (f := 0) (by decide +kernel) rfl) (
  xval (s_iload_n (f := 1) (by decide +kernel) rfl) (
  xval (s_callV (i := 38) c_R_shortText1 (by decide +kernel) rfl (xtt_good tw_712) rfl (tc tw_709) (tc tw_711) (tc ts_19) (tc tw_5) ⟨by decide, by decide, by decide +kernel⟩ ⟨by decide, by decide, rfl, rfl, by decide, by decide⟩ x0_e) (
  xval (s_aload_n (f := 0) (by decide +kernel) rfl) (
  xval (s_getf (i := 22) (by decide +kernel) rfl tin_R (by decide) (tc tw_134)) (
  xval (s_getf (i := 48) (by decide +kernel) rfl tin_S (by decide) (tc tw_61)) (
  xval (s_callV (i := 53) c_S_classNamed (by decide +kernel) rfl (xtt_good tw_377) rfl (tc tw_727) (tc tw_375) (tc tw_376) (tc tw_2) ⟨by decide, by decide, by decide +kernel⟩ ⟨by decide, by decide, rfl, rfl, by decide, by decide⟩ x0_e) (
  xval (s_istore_n (f := 2) (by decide +kernel) rfl (by decide)) (
  xval (s_iload_n (f := 2) (by decide +kernel) rfl) (
  xval (s_iconst (z := (-1)) (by decide +kernel) (by decide)) (
  xval (s_icne (z := 8) (by decide +kernel) (by decide)) (
  xval (s_bipush (z := (-2)) (by decide +kernel) (by decide)) (
  xval (s_goto (z := 4) (by decide +kernel) (by decide)) (
  xval (s_iload_n (f := 2) (by decide +kernel) rfl) (
  xval (s_iret (by decide +kernel)) (
  xval_nil))))))))))))))))))))))))))))))
theorem c_R_nextSuperclass : xMet xCl y_R_nextSuperclass ws_R_nextSuperclass rm_R_nextSuperclass (xRun tb_R_nextSuperclass 3) := xMet.of (by decide) rfl v_R_nextSuperclass
def tb_R_semicolon : xT := [(0, o_iload 2 1), (1, o_istore 4 2), (3, o_iload 4 2), (5, o_iload 3 1), (6, o_ic (fun a b => b ≤ a) 27), (9, o_aload 0 1), (10, o_iload 1 1), (11, o_iload 4 2), (13, o_callV (xRun tb_R_textChar 3) 4 2 0 0), (16, o_i 59 2), (18, o_ic (fun a b => a = b) 27), (21, o_iinc 4 1), (24, o_goto 3), (27, o_iload 4 2), (29, o_iret)]
abbrev y_R_semicolon : MethodName := ⟨"NameMover$ClassReader", "semicolon", "(III)I"⟩
abbrev rm_R_semicolon : Room := { frames := 2, cells := 0, slots := 0, locals := 43 }
abbrev ws_R_semicolon : List Cond := Cond.code y_R_semicolon prog_3_method_13_code 5 (some .int) :: xtt
set_option maxRecDepth 100000 in
theorem v_R_semicolon : ∀ q ∈ tb_R_semicolon, xSd (0, 0) x0 xCl "NameMover$ClassReader" ws_R_semicolon prog_3_method_13_code 5 (some .int) rm_R_semicolon q :=
  xval (s_iload_n (f := 2) (by decide +kernel) rfl) (
  xval (s_istore (by decide +kernel) (by decide)) (
  xval (s_iload (by decide +kernel)) (
  xval (s_iload_n (f := 3) (by decide +kernel) rfl) (
  xval (s_icge (z := 21) (by decide +kernel) (by decide)) (
  xval (s_aload_n (f := 0) (by decide +kernel) rfl) (
  xval (s_iload_n (f := 1) (by decide +kernel) rfl) (
  xval (s_iload (by decide +kernel)) (
  xval (s_callV (i := 104) c_R_textChar (by decide +kernel) rfl (xtt_good tw_724) rfl (tc tw_721) (tc tw_723) (tc ts_22) (tc tw_5) ⟨by decide, by decide, by decide +kernel⟩ ⟨by decide, by decide, rfl, rfl, by decide, by decide⟩ x0_e) (
  xval (s_bipush (z := 59) (by decide +kernel) (by decide)) (
  xval (s_iceq (z := 9) (by decide +kernel) (by decide)) (
  xval (s_iinc (z := 1) (by decide +kernel) (by decide) (by decide)) (
  xval (s_goto (z := (-21)) (by decide +kernel) (by decide)) (
  xval (s_iload (by decide +kernel)) (
  xval (s_iret (by decide +kernel)) (
  xval_nil)))))))))))))))
theorem c_R_semicolon : xMet xCl y_R_semicolon ws_R_semicolon rm_R_semicolon (xRun tb_R_semicolon 5) := xMet.of (by decide) rfl v_R_semicolon
def tb_R_compactDescriptor : xT := [(0, o_l 0 1), (1, o_lstore 2 1), (2, o_i 0 1), (3, o_istore 4 2), (5, o_aload 0 1), (6, o_iload 1 1), (7, o_callV (xRun tb_R_textLength 2) 4 1 0 0), (10, o_istore 5 2), (12, o_i 0 1), (13, o_istore 6 2), (15, o_iload 6 2), (17, o_iload 5 2), (19, o_ic (fun a b => b ≤ a) 130), (22, o_aload 0 1), (23, o_iload 1 1), (24, o_iload 6 2), (26, o_callV (xRun tb_R_textChar 3) 4 2 0 0), (29, o_istore 7 2), (31, o_iload 7 2), (33, o_i 76 2), (35, o_icn (fun a b => a = b) 102), (38, o_aload 0 1), (39, o_iload 1 1), (40, o_iload 6 2), (42, o_iload 5 2), (44, o_callV (xRun tb_R_semicolon 5) 4 3 0 0), (47, o_istore 8 2), (49, o_aload 0 1), (50, o_getf 4 0), (53, o_aload 0 1), (54, o_iload 1 1), (55, o_iload 6 2), (57, o_i 1 1), (58, o_ii (fun a b => a + b)), (59, o_iload 8 2), (61, o_callV (xRun tb_R_shortText3 7) 4 3 0 0), (64, o_aload 0 1), (65, o_getf 4 0), (68, o_getf 1 10), (71, o_i 1 1), (72, o_ii (fun a b => a + b)), (73, o_callV (xRun tb_S_classNamed 5) 1 2 0 0), (76, o_istore 9 2), (78, o_iload 9 2), (80, o_i (-1) 1), (81, o_icn (fun a b => a = b) 86), (84, o_l 0 1), (85, o_lret), (86, o_i 48 2), (88, o_iload 9 2), (90, o_ii (fun a b => a + b)), (91, o_istore 7 2), (93, o_iload 6 2), (95, o_iload 8 2), (97, o_max 0), (100, o_istore 6 2), (102, o_iload 4 2), (104, o_i 8 2), (106, o_icn (fun a b => a = b) 111), (109, o_l 0 1), (110, o_lret), (111, o_lload 2 1), (112, o_iload 7 2), (114, o_iload 4 2), (116, o_call (xRun tb_T_placed 2) 2 0 0), (119, o_ll (fun a b => a ||| b)), (120, o_lstore 2 1), (121, o_iinc 4 1), (124, o_iinc 6 1), (127, o_goto 15), (130, o_lload 2 1), (131, o_lret)]
abbrev y_R_compactDescriptor : MethodName := ⟨"NameMover$ClassReader", "compactDescriptor", "(I)J"⟩
abbrev rm_R_compactDescriptor : Room := { frames := 3, cells := 0, slots := 0, locals := 69 }
abbrev ws_R_compactDescriptor : List Cond := Cond.code y_R_compactDescriptor prog_3_method_12_code 10 (some .long) :: xtt
set_option maxRecDepth 100000 in
theorem v_R_compactDescriptor : ∀ q ∈ tb_R_compactDescriptor, xSd (0, 0) x0 xCl "NameMover$ClassReader" ws_R_compactDescriptor prog_3_method_12_code 10 (some .long) rm_R_compactDescriptor q :=
  xval (s_lconst (z := 0) (by decide +kernel) (by decide)) (
  xval (s_lstore_n (f := 2) (by decide +kernel) rfl (by decide)) (
  xval (s_iconst (z := 0) (by decide +kernel) (by decide)) (
  xval (s_istore (by decide +kernel) (by decide)) (
  xval (s_aload_n (f := 0) (by decide +kernel) rfl) (
  xval (s_iload_n (f := 1) (by decide +kernel) rfl) (
  xval (s_callV (i := 98) c_R_textLength (by decide +kernel) rfl (xtt_good tw_716) rfl (tc tw_713) (tc tw_715) (tc ts_20) (tc tw_5) ⟨by decide, by decide, by decide +kernel⟩ ⟨by decide, by decide, rfl, rfl, by decide, by decide⟩ x0_e) (
  xval (s_istore (by decide +kernel) (by decide)) (
  xval (s_iconst (z := 0) (by decide +kernel) (by decide)) (
  xval (s_istore (by decide +kernel) (by decide)) (
  xval (s_iload (by decide +kernel)) (
  xval (s_iload (by decide +kernel)) (
  xval (s_icge (z := 111) (by decide +kernel) (by decide)) (
  xval (s_aload_n (f := 0) (by decide +kernel) rfl) (
  xval (s_iload_n (f := 1) (by decide +kernel) rfl) (
  xval (s_iload (by decide +kernel)) (
  xval (s_callV (i := 104) c_R_textChar (by decide +kernel) rfl (xtt_good tw_724) rfl (tc tw_721) (tc tw_723) (tc ts_22) (tc tw_5) ⟨by decide, by decide, by decide +kernel⟩ ⟨by decide, by decide, rfl, rfl, by decide, by decide⟩ x0_e) (
  xval (s_istore (by decide +kernel) (by decide)) (
  xval (s_iload (by decide +kernel)) (
  xval (s_bipush (z := 76) (by decide +kernel) (by decide)) (
  xval (s_icne (z := 67) (by decide +kernel) (by decide)) (
  xval (s_aload_n (f := 0) (by decide +kernel) rfl) (
  xval (s_iload_n (f := 1) (by decide +kernel) rfl) (
  xval (s_iload (by decide +kernel)) (
  xval (s_iload (by decide +kernel)) (
  xval (s_callV (i := 112) c_R_semicolon (by decide +kernel) rfl (xtt_good tw_744) rfl (tc tw_741) (tc tw_743) (tc ts_26) (tc tw_5) ⟨by decide, by decide, by decide +kernel⟩ ⟨by decide, by decide, rfl, rfl, by decide, by decide⟩ x0_e) (
  xval (s_istore (by decide +kernel) (by decide)) (
  xval (s_aload_n (f := 0) (by decide +kernel) rfl) (
  xval (s_getf (i := 22) (by decide +kernel) rfl tin_R (by decide) (tc tw_134)) (
  xval (s_aload_n (f := 0) (by decide +kernel) rfl) (
  xval (s_iload_n (f := 1) (by decide +kernel) rfl) (
  xval (s_iload (by decide +kernel)) (
  xval (s_iconst (z := 1) (by decide +kernel) (by decide)) (
  xval (s_iadd (by decide +kernel)) (
  xval (s_iload (by decide +kernel)) (
  xval (s_callV (i := 101) c_R_shortText3 (by decide +kernel) rfl (xtt_good tw_720) rfl (tc tw_717) (tc tw_719) (tc ts_21) (tc tw_5) ⟨by decide, by decide, by decide +kernel⟩ ⟨by decide, by decide, rfl, rfl, by decide, by decide⟩ x0_e) (
  xval (s_aload_n (f := 0) (by decide +kernel) rfl) (
  xval (s_getf (i := 22) (by decide +kernel) rfl tin_R (by decide) (tc tw_134)) (
  xval (s_getf (i := 48) (by decide +kernel) rfl tin_S (by decide) (tc tw_61)) (
  xval (s_iconst (z := 1) (by decide +kernel) (by decide)) (
  xval (s_iadd (by decide +kernel)) (
  xval (s_callV (i := 53) c_S_classNamed (by decide +kernel) rfl (xtt_good tw_377) rfl (tc tw_727) (tc tw_375) (tc tw_376) (tc tw_2) ⟨by decide, by decide, by decide +kernel⟩ ⟨by decide, by decide, rfl, rfl, by decide, by decide⟩ x0_e) (
  xval (s_istore (by decide +kernel) (by decide)) (
  xval (s_iload (by decide +kernel)) (
  xval (s_iconst (z := (-1)) (by decide +kernel) (by decide)) (
  xval (s_icne (z := 5) (by decide +kernel) (by decide)) (
  xval (s_lconst (z := 0) (by decide +kernel) (by decide)) (
  xval (s_lret (by decide +kernel)) (
  xval (s_bipush (z := 48) (by decide +kernel) (by decide)) (
  xval (s_iload (by decide +kernel)) (
  xval (s_iadd (by decide +kernel)) (
  xval (s_istore (by decide +kernel) (by decide)) (
  xval (s_iload (by decide +kernel)) (
  xval (s_iload (by decide +kernel)) (
  xval (s_max (i := 116) (by decide +kernel) (tc tw_745) (tc tw_601) (tc tw_18) (tc tw_602) ⟨by decide, by decide, trivial⟩ ⟨by decide, by decide⟩) (
  xval (s_istore (by decide +kernel) (by decide)) (
  xval (s_iload (by decide +kernel)) (
  xval (s_bipush (z := 8) (by decide +kernel) (by decide)) (
  xval (s_icne (z := 5) (by decide +kernel) (by decide)) (
  xval (s_lconst (z := 0) (by decide +kernel) (by decide)) (
  xval (s_lret (by decide +kernel)) (
  xval (s_lload_n (f := 2) (by decide +kernel) rfl) (
  xval (s_iload (by decide +kernel)) (
  xval (s_iload (by decide +kernel)) (
  xval (s_callS (i := 108) c_T_placed (by decide +kernel) rfl (xtt_good tw_486) (tc tw_725) (tc tw_485) (tc tw_7) ⟨by decide, by decide, by decide +kernel⟩ ⟨by decide, by decide, rfl, rfl, by decide, by decide⟩ x0_e) (
  xval (s_lor (by decide +kernel)) (
  xval (s_lstore_n (f := 2) (by decide +kernel) rfl (by decide)) (
  xval (s_iinc (z := 1) (by decide +kernel) (by decide) (by decide)) (
  xval (s_iinc (z := 1) (by decide +kernel) (by decide) (by decide)) (
  xval (s_goto (z := (-112)) (by decide +kernel) (by decide)) (
  xval (s_lload_n (f := 2) (by decide +kernel) rfl) (
  xval (s_lret (by decide +kernel)) (
  xval_nil))))))))))))))))))))))))))))))))))))))))))))))))))))))))))))))))))))))))
theorem c_R_compactDescriptor : xMet xCl y_R_compactDescriptor ws_R_compactDescriptor rm_R_compactDescriptor (xRun tb_R_compactDescriptor 10) := xMet.of (by decide) rfl v_R_compactDescriptor
def tb_R_placeMember : xT := [(0, o_aload 0 1), (1, o_getf 4 0), (4, o_getf 1 10), (7, o_istore 1 1), (8, o_aload 0 1), (9, o_aload 0 1), (10, o_callV (xRun tb_R_nextText 2) 4 0 0 0), (13, o_callV (xRun tb_R_shortText1 2) 4 1 0 0), (16, o_lstore 2 1), (17, o_aload 0 1), (18, o_aload 0 1), (19, o_callV (xRun tb_R_nextText 2) 4 0 0 0), (22, o_callV (xRun tb_R_compactDescriptor 10) 4 1 0 0), (25, o_lstore 4 2), (27, o_aload 0 1), (28, o_callV (xRun tb_R_nextByte 1) 4 0 0 0), (31, o_i 1 1), (32, o_icn (fun a b => a = b) 39), (35, o_i 1 1), (36, o_goto 40), (39, o_i 0 1), (40, o_istore 6 2), (42, o_lload 2 1), (43, o_call (xRun tb_T_isIdentifier 2) 1 0 0), (46, o_if (fun a => a = 0) 74), (49, o_lload 4 2), (51, o_iload 1 1), (52, o_i 1 1), (53, o_ii (fun a b => a + b)), (54, o_call (xRun tb_D_isOne 5) 2 0 0), (57, o_if (fun a => a = 0) 74), (60, o_aload 0 1), (61, o_getf 4 0), (64, o_iload 1 1), (65, o_lload 2 1), (66, o_lload 4 2), (68, o_callV (xRun tb_S_hasRoomFor 6) 1 3 0 0), (71, o_ifn (fun a => a = 0) 76), (74, o_i 0 1), (75, o_zret), (76, o_aload 0 1), (77, o_getf 4 0), (80, o_iload 1 1), (81, o_lload 2 1), (82, o_lload 4 2), (84, o_iload 6 2), (86, o_callV (xRun tb_S_placeMember 9) 1 4 0 0), (89, o_pop), (90, o_i 1 1), (91, o_zret)]
abbrev y_R_placeMember : MethodName := ⟨"NameMover$ClassReader", "placeMember", "()Z"⟩
abbrev rm_R_placeMember : Room := { frames := 4, cells := 0, slots := 0, locals := 98 }
abbrev ws_R_placeMember : List Cond := Cond.code y_R_placeMember prog_3_method_3_code 7 (some .boolean) :: xtt
set_option maxRecDepth 100000 in
theorem v_R_placeMember : ∀ q ∈ tb_R_placeMember, xSd (0, 0) x0 xCl "NameMover$ClassReader" ws_R_placeMember prog_3_method_3_code 7 (some .boolean) rm_R_placeMember q :=
  xval (s_aload_n (f := 0) (by decide +kernel) rfl) (
  xval (s_getf (i := 22) (by decide +kernel) rfl tin_R (by decide) (tc tw_134)) (
  xval (s_getf (i := 48) (by decide +kernel) rfl tin_S (by decide) (tc tw_61)) (
  xval (s_istore_n (f := 1) (by decide +kernel) rfl (by decide)) (
  xval (s_aload_n (f := 0) (by decide +kernel) rfl) (
  xval (s_aload_n (f := 0) (by decide +kernel) rfl) (
  xval (s_callV (i := 34) c_R_nextText (by decide +kernel) rfl (xtt_good tw_704) rfl (tc tw_701) (tc tw_703) (tc ts_17) (tc tw_5) ⟨by decide, by decide, by decide +kernel⟩ ⟨by decide, by decide, rfl, rfl, by decide, by decide⟩ x0_e) (
  xval (s_callV (i := 38) c_R_shortText1 (by decide +kernel) rfl (xtt_good tw_712) rfl (tc tw_709) (tc tw_711) (tc ts_19) (tc tw_5) ⟨by decide, by decide, by decide +kernel⟩ ⟨by decide, by decide, rfl, rfl, by decide, by decide⟩ x0_e) (
  xval (s_lstore_n (f := 2) (by decide +kernel) rfl (by decide)) (
  xval (s_aload_n (f := 0) (by decide +kernel) rfl) (
  xval (s_aload_n (f := 0) (by decide +kernel) rfl) (
  xval (s_callV (i := 34) c_R_nextText (by decide +kernel) rfl (xtt_good tw_704) rfl (tc tw_701) (tc tw_703) (tc ts_17) (tc tw_5) ⟨by decide, by decide, by decide +kernel⟩ ⟨by decide, by decide, rfl, rfl, by decide, by decide⟩ x0_e) (
  xval (s_callV (i := 70) c_R_compactDescriptor (by decide +kernel) rfl (xtt_good tw_740) rfl (tc tw_737) (tc tw_739) (tc ts_25) (tc tw_5) ⟨by decide, by decide, by decide +kernel⟩ ⟨by decide, by decide, rfl, rfl, by decide, by decide⟩ x0_e) (
  xval (s_lstore (by decide +kernel) (by decide)) (
  xval (s_aload_n (f := 0) (by decide +kernel) rfl) (
  xval (s_callV (i := 60) c_R_nextByte (by decide +kernel) rfl (xtt_good tw_708) rfl (tc tw_705) (tc tw_707) (tc ts_18) (tc tw_5) ⟨by decide, by decide, by decide +kernel⟩ ⟨by decide, by decide, rfl, rfl, by decide, by decide⟩ x0_e) (
  xval (s_iconst (z := 1) (by decide +kernel) (by decide)) (
  xval (s_icne (z := 7) (by decide +kernel) (by decide)) (
  xval (s_iconst (z := 1) (by decide +kernel) (by decide)) (
  xval (s_goto (z := 4) (by decide +kernel) (by decide)) (
  xval (s_iconst (z := 0) (by decide +kernel) (by decide)) (
  xval (s_istore (by decide +kernel) (by decide)) (
  xval (s_lload_n (f := 2) (by decide +kernel) rfl) (
  xval (s_callS (i := 73) c_T_isIdentifier (by decide +kernel) rfl (xtt_good tw_416) (tc tw_746) (tc tw_415) (tc tw_7) ⟨by decide, by decide, by decide +kernel⟩ ⟨by decide, by decide, rfl, rfl, by decide, by decide⟩ x0_e) (
  xval (s_ifeq (z := 28) (by decide +kernel) (by decide)) (
  xval (s_lload (by decide +kernel)) (
  xval (s_iload_n (f := 1) (by decide +kernel) rfl) (
  xval (s_iconst (z := 1) (by decide +kernel) (by decide)) (
  xval (s_iadd (by decide +kernel)) (
  xval (s_callS (i := 76) c_D_isOne (by decide +kernel) rfl (xtt_good tw_420) (tc tw_747) (tc tw_419) (tc tw_14) ⟨by decide, by decide, by decide +kernel⟩ ⟨by decide, by decide, rfl, rfl, by decide, by decide⟩ x0_e) (
  xval (s_ifeq (z := 17) (by decide +kernel) (by decide)) (
  xval (s_aload_n (f := 0) (by decide +kernel) rfl) (
  xval (s_getf (i := 22) (by decide +kernel) rfl tin_R (by decide) (tc tw_134)) (
  xval (s_iload_n (f := 1) (by decide +kernel) rfl) (
  xval (s_lload_n (f := 2) (by decide +kernel) rfl) (
  xval (s_lload (by decide +kernel)) (
  xval (s_callV (i := 82) c_S_hasRoomFor (by decide +kernel) rfl (xtt_good tw_439) rfl (tc tw_748) (tc tw_437) (tc tw_438) (tc tw_2) ⟨by decide, by decide, by decide +kernel⟩ ⟨by decide, by decide, rfl, rfl, by decide, by decide⟩ x0_e) (
  xval (s_ifne (z := 5) (by decide +kernel) (by decide)) (
  xval (s_iconst (z := 0) (by decide +kernel) (by decide)) (
  xval (s_zret (by decide +kernel)) (
  xval (s_aload_n (f := 0) (by decide +kernel) rfl) (
  xval (s_getf (i := 22) (by decide +kernel) rfl tin_R (by decide) (tc tw_134)) (
  xval (s_iload_n (f := 1) (by decide +kernel) rfl) (
  xval (s_lload_n (f := 2) (by decide +kernel) rfl) (
  xval (s_lload (by decide +kernel)) (
  xval (s_iload (by decide +kernel)) (
  xval (s_callV (i := 86) c_S_placeMember (by decide +kernel) rfl (xtt_good tw_451) rfl (tc tw_749) (tc tw_449) (tc tw_450) (tc tw_2) ⟨by decide, by decide, by decide +kernel⟩ ⟨by decide, by decide, rfl, rfl, by decide, by decide⟩ x0_e) (
  xval (s_pop (by decide +kernel)) (
  xval (s_iconst (z := 1) (by decide +kernel) (by decide)) (
  xval (s_zret (by decide +kernel)) (
  xval_nil))))))))))))))))))))))))))))))))))))))))))))))))))
theorem c_R_placeMember : xMet xCl y_R_placeMember ws_R_placeMember rm_R_placeMember (xRun tb_R_placeMember 7) := xMet.of (by decide) rfl v_R_placeMember
