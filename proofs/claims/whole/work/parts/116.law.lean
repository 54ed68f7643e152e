theorem xtt_good0 {c' : Cond} (hc : c' ∈ xtt) : xGood xtt (c' :: xtt) := fun w hw => by
  have h : w ∈ xtt := by
    rcases List.mem_cons.mp hw with rfl | h
    · exact hc
    · exact h
  exact ⟨h, xgb_gw (List.mem_filter.mp h).2⟩
def tb_law (L : Nat) (xs : Nat → Int32) : xT := [(23, o_iload 4 2), (25, o_aload 0 1), (26, o_slen L), (27, o_i 7 2), (29, o_ii (fun a b => a - b)), (30, o_ic (fun a b => b < a) 1361), (33, o_aload 0 1), (34, o_iload 4 2), (36, o_sload L xs), (37, o_i 15 2), (39, o_ii (fun a b => a &&& b)), (40, o_sw 1355 [120, 248, 422, 502, 634, 746, 759, 803, 816, 829, 912, 1007, 1151, 1207, 1263, 1311]), (120, o_aload 1 1), (121, o_aload 0 1), (122, o_iload 4 2), (124, o_i 1 1), (125, o_ii (fun a b => a + b)), (126, o_sload L xs), (127, o_i2l), (128, o_i 32 2), (130, o_li xshl), (131, o_aload 0 1), (132, o_iload 4 2), (134, o_i 2 1), (135, o_ii (fun a b => a + b)), (136, o_sload L xs), (137, o_i2l), (138, o_l 4294967295 3), (141, o_ll (fun a b => a &&& b)), (142, o_ll (fun a b => a ||| b)), (143, o_aload 0 1), (144, o_iload 4 2), (146, o_i 3 1), (147, o_ii (fun a b => a + b)), (148, o_sload L xs), (149, o_aload 0 1), (150, o_iload 4 2), (152, o_i 4 1), (153, o_ii (fun a b => a + b)), (154, o_sload L xs), (155, o_if (fun a => a = 0) 162), (158, o_i 1 1), (159, o_goto 163), (162, o_i 0 1), (163, o_aload 3 1), (164, o_callP (xRun tb_L_declare 7) 5 512 1), (167, o_istore 5 2), (169, o_aload 2 1), (170, o_aload 0 1), (171, o_iload 4 2), (173, o_i 1 1), (174, o_ii (fun a b => a + b)), (175, o_sload L xs), (176, o_i2l), (177, o_i 32 2), (179, o_li xshl), (180, o_aload 0 1), (181, o_iload 4 2), (183, o_i 2 1), (184, o_ii (fun a b => a + b)), (185, o_sload L xs), (186, o_i2l), (187, o_l 4294967295 3), (190, o_ll (fun a b => a &&& b)), (191, o_ll (fun a b => a ||| b)), (192, o_aload 0 1), (193, o_iload 4 2), (195, o_i 3 1), (196, o_ii (fun a b => a + b)), (197, o_sload L xs), (198, o_aload 0 1), (199, o_iload 4 2), (201, o_i 4 1), (202, o_ii (fun a b => a + b)), (203, o_sload L xs), (204, o_if (fun a => a = 0) 211), (207, o_i 1 1), (208, o_goto 212), (211, o_i 0 1), (212, o_callVP (xRun tb_M_declare 5) 5 3 512 0), (215, o_istore 6 2), (217, o_aload 2 1), (218, o_callVP (xRun tb_M_thrown 1) 5 0 512 0), (221, o_iload 5 2), (223, o_ic (fun a b => a = b) 228), (226, o_i 0 1), (227, o_zret), (228, o_iload 5 2), (230, o_ifn (fun a => a = 0) 245), (233, o_aload 3 1), (234, o_i 0 1), (235, o_laload), (236, o_iload 6 2), (238, o_i2l), (239, o_lcmp), (240, o_if (fun a => a = 0) 245), (243, o_i 0 1), (244, o_zret), (245, o_goto 1355), (248, o_aload 1 1), (249, o_aload 0 1), (250, o_iload 4 2), (252, o_i 1 1), (253, o_ii (fun a b => a + b)), (254, o_sload L xs), (255, o_aload 0 1), (256, o_iload 4 2), (258, o_i 2 1), (259, o_ii (fun a b => a + b)), (260, o_sload L xs), (261, o_i2l), (262, o_i 32 2), (264, o_li xshl), (265, o_aload 0 1), (266, o_iload 4 2), (268, o_i 3 1), (269, o_ii (fun a b => a + b)), (270, o_sload L xs), (271, o_i2l), (272, o_l 4294967295 3), (275, o_ll (fun a b => a &&& b)), (276, o_ll (fun a b => a ||| b)), (277, o_aload 0 1), (278, o_iload 4 2), (280, o_i 4 1), (281, o_ii (fun a b => a + b)), (282, o_sload L xs), (283, o_i2l), (284, o_i 32 2), (286, o_li xshl), (287, o_aload 0 1), (288, o_iload 4 2), (290, o_i 5 1), (291, o_ii (fun a b => a + b)), (292, o_sload L xs), (293, o_i2l), (294, o_l 4294967295 3), (297, o_ll (fun a b => a &&& b)), (298, o_ll (fun a b => a ||| b)), (299, o_aload 0 1), (300, o_iload 4 2), (302, o_i 6 2), (304, o_ii (fun a b => a + b)), (305, o_sload L xs), (306, o_if (fun a => a = 0) 313), (309, o_i 1 1), (310, o_goto 314), (313, o_i 0 1), (314, o_aload 3 1), (315, o_callP (xRun tb_L_member 9) 6 512 1), (318, o_istore 5 2), (320, o_aload 2 1), (321, o_aload 0 1), (322, o_iload 4 2), (324, o_i 1 1), (325, o_ii (fun a b => a + b)), (326, o_sload L xs), (327, o_aload 0 1), (328, o_iload 4 2), (330, o_i 2 1), (331, o_ii (fun a b => a + b)), (332, o_sload L xs), (333, o_i2l), (334, o_i 32 2), (336, o_li xshl), (337, o_aload 0 1), (338, o_iload 4 2), (340, o_i 3 1), (341, o_ii (fun a b => a + b)), (342, o_sload L xs), (343, o_i2l), (344, o_l 4294967295 3), (347, o_ll (fun a b => a &&& b)), (348, o_ll (fun a b => a ||| b)), (349, o_aload 0 1), (350, o_iload 4 2), (352, o_i 4 1), (353, o_ii (fun a b => a + b)), (354, o_sload L xs), (355, o_i2l), (356, o_i 32 2), (358, o_li xshl), (359, o_aload 0 1), (360, o_iload 4 2), (362, o_i 5 1), (363, o_ii (fun a b => a + b)), (364, o_sload L xs), (365, o_i2l), (366, o_l 4294967295 3), (369, o_ll (fun a b => a &&& b)), (370, o_ll (fun a b => a ||| b)), (371, o_aload 0 1), (372, o_iload 4 2), (374, o_i 6 2), (376, o_ii (fun a b => a + b)), (377, o_sload L xs), (378, o_if (fun a => a = 0) 385), (381, o_i 1 1), (382, o_goto 386), (385, o_i 0 1), (386, o_callVP (xRun tb_M_member 7) 5 4 512 0), (389, o_istore 6 2), (391, o_aload 2 1), (392, o_callVP (xRun tb_M_thrown 1) 5 0 512 0), (395, o_iload 5 2), (397, o_ic (fun a b => a = b) 402), (400, o_i 0 1), (401, o_zret), (402, o_iload 5 2), (404, o_ifn (fun a => a = 0) 419), (407, o_aload 3 1), (408, o_i 0 1), (409, o_laload), (410, o_iload 6 2), (412, o_i2l), (413, o_lcmp), (414, o_if (fun a => a = 0) 419), (417, o_i 0 1), (418, o_zret), (419, o_goto 1355), (422, o_aload 1 1), (423, o_aload 0 1), (424, o_iload 4 2), (426, o_i 1 1), (427, o_ii (fun a b => a + b)), (428, o_sload L xs), (429, o_aload 0 1), (430, o_iload 4 2), (432, o_i 2 1), (433, o_ii (fun a b => a + b)), (434, o_sload L xs), (435, o_i2l), (436, o_i 32 2), (438, o_li xshl), (439, o_aload 0 1), (440, o_iload 4 2), (442, o_i 3 1), (443, o_ii (fun a b => a + b)), (444, o_sload L xs), (445, o_i2l), (446, o_l 4294967295 3), (449, o_ll (fun a b => a &&& b)), (450, o_ll (fun a b => a ||| b)), (451, o_callP (xRun tb_L_moveClass 5) 3 512 1), (454, o_istore 5 2), (456, o_aload 2 1), (457, o_aload 0 1), (458, o_iload 4 2), (460, o_i 1 1), (461, o_ii (fun a b => a + b)), (462, o_sload L xs), (463, o_aload 0 1), (464, o_iload 4 2), (466, o_i 2 1), (467, o_ii (fun a b => a + b)), (468, o_sload L xs), (469, o_i2l), (470, o_i 32 2), (472, o_li xshl), (473, o_aload 0 1), (474, o_iload 4 2), (476, o_i 3 1), (477, o_ii (fun a b => a + b)), (478, o_sload L xs), (479, o_i2l), (480, o_l 4294967295 3), (483, o_ll (fun a b => a &&& b)), (484, o_ll (fun a b => a ||| b)), (485, o_callVP (xRun tb_M_moveClass 4) 5 2 512 0), (488, o_aload 2 1), (489, o_callVP (xRun tb_M_thrown 1) 5 0 512 0), (492, o_iload 5 2), (494, o_ic (fun a b => a = b) 499), (497, o_i 0 1), (498, o_zret), (499, o_goto 1355), (502, o_aload 1 1), (503, o_aload 0 1), (504, o_iload 4 2), (506, o_i 1 1), (507, o_ii (fun a b => a + b)), (508, o_sload L xs), (509, o_i2l), (510, o_i 32 2), (512, o_li xshl), (513, o_aload 0 1), (514, o_iload 4 2), (516, o_i 2 1), (517, o_ii (fun a b => a + b)), (518, o_sload L xs), (519, o_i2l), (520, o_l 4294967295 3), (523, o_ll (fun a b => a &&& b)), (524, o_ll (fun a b => a ||| b)), (525, o_aload 0 1), (526, o_iload 4 2), (528, o_i 3 1), (529, o_ii (fun a b => a + b)), (530, o_sload L xs), (531, o_i2l), (532, o_i 32 2), (534, o_li xshl), (535, o_aload 0 1), (536, o_iload 4 2), (538, o_i 4 1), (539, o_ii (fun a b => a + b)), (540, o_sload L xs), (541, o_i2l), (542, o_l 4294967295 3), (545, o_ll (fun a b => a &&& b)), (546, o_ll (fun a b => a ||| b)), (547, o_aload 3 1), (548, o_callP (xRun tb_L_movePackage 7) 4 512 1), (551, o_istore 5 2), (553, o_aload 2 1), (554, o_aload 0 1), (555, o_iload 4 2), (557, o_i 1 1), (558, o_ii (fun a b => a + b)), (559, o_sload L xs), (560, o_i2l), (561, o_i 32 2), (563, o_li xshl), (564, o_aload 0 1), (565, o_iload 4 2), (567, o_i 2 1), (568, o_ii (fun a b => a + b)), (569, o_sload L xs), (570, o_i2l), (571, o_l 4294967295 3), (574, o_ll (fun a b => a &&& b)), (575, o_ll (fun a b => a ||| b)), (576, o_aload 0 1), (577, o_iload 4 2), (579, o_i 3 1), (580, o_ii (fun a b => a + b)), (581, o_sload L xs), (582, o_i2l), (583, o_i 32 2), (585, o_li xshl), (586, o_aload 0 1), (587, o_iload 4 2), (589, o_i 4 1), (590, o_ii (fun a b => a + b)), (591, o_sload L xs), (592, o_i2l), (593, o_l 4294967295 3), (596, o_ll (fun a b => a &&& b)), (597, o_ll (fun a b => a ||| b)), (598, o_callVP (xRun tb_M_movePackage 9) 5 2 512 0), (601, o_istore 6 2), (603, o_aload 2 1), (604, o_callVP (xRun tb_M_thrown 1) 5 0 512 0), (607, o_iload 5 2), (609, o_ic (fun a b => a = b) 614), (612, o_i 0 1), (613, o_zret), (614, o_iload 5 2), (616, o_ifn (fun a => a = 0) 631), (619, o_aload 3 1), (620, o_i 0 1), (621, o_laload), (622, o_iload 6 2), (624, o_i2l), (625, o_lcmp), (626, o_if (fun a => a = 0) 631), (629, o_i 0 1), (630, o_zret), (631, o_goto 1355), (634, o_aload 1 1), (635, o_aload 0 1), (636, o_iload 4 2), (638, o_i 1 1), (639, o_ii (fun a b => a + b)), (640, o_sload L xs), (641, o_aload 0 1), (642, o_iload 4 2), (644, o_i 2 1), (645, o_ii (fun a b => a + b)), (646, o_sload L xs), (647, o_aload 0 1), (648, o_iload 4 2), (650, o_i 3 1), (651, o_ii (fun a b => a + b)), (652, o_sload L xs), (653, o_i2l), (654, o_i 32 2), (656, o_li xshl), (657, o_aload 0 1), (658, o_iload 4 2), (660, o_i 4 1), (661, o_ii (fun a b => a + b)), (662, o_sload L xs), (663, o_i2l), (664, o_l 4294967295 3), (667, o_ll (fun a b => a &&& b)), (668, o_ll (fun a b => a ||| b)), (669, o_aload 3 1), (670, o_callP (xRun tb_L_moveMember 7) 5 512 1), (673, o_istore 5 2), (675, o_aload 2 1), (676, o_aload 0 1), (677, o_iload 4 2), (679, o_i 1 1), (680, o_ii (fun a b => a + b)), (681, o_sload L xs), (682, o_aload 0 1), (683, o_iload 4 2), (685, o_i 2 1), (686, o_ii (fun a b => a + b)), (687, o_sload L xs), (688, o_aload 0 1), (689, o_iload 4 2), (691, o_i 3 1), (692, o_ii (fun a b => a + b)), (693, o_sload L xs), (694, o_i2l), (695, o_i 32 2), (697, o_li xshl), (698, o_aload 0 1), (699, o_iload 4 2), (701, o_i 4 1), (702, o_ii (fun a b => a + b)), (703, o_sload L xs), (704, o_i2l), (705, o_l 4294967295 3), (708, o_ll (fun a b => a &&& b)), (709, o_ll (fun a b => a ||| b)), (710, o_callVP (xRun tb_M_moveMember 7) 5 3 512 0), (713, o_istore 6 2), (715, o_aload 2 1), (716, o_callVP (xRun tb_M_thrown 1) 5 0 512 0), (719, o_iload 5 2), (721, o_ic (fun a b => a = b) 726), (724, o_i 0 1), (725, o_zret), (726, o_iload 5 2), (728, o_ifn (fun a => a = 0) 743), (731, o_aload 3 1), (732, o_i 0 1), (733, o_laload), (734, o_iload 6 2), (736, o_i2l), (737, o_lcmp), (738, o_if (fun a => a = 0) 743), (741, o_i 0 1), (742, o_zret), (743, o_goto 1355), (746, o_aload 1 1), (747, o_callVP (xRun tb_N_problem 1) 0 0 512 0), (750, o_aload 2 1), (751, o_callVP (xRun tb_M_problem 1) 5 0 512 0), (754, o_ic (fun a b => a = b) 1355), (757, o_i 0 1), (758, o_zret), (759, o_aload 1 1), (760, o_aload 3 1), (761, o_callP (xRun tb_L_apply 3) 2 512 1), (764, o_istore 5 2), (766, o_aload 2 1), (767, o_callVP (xRun tb_M_apply 3) 5 0 512 0), (770, o_istore 6 2), (772, o_aload 2 1), (773, o_callVP (xRun tb_M_thrown 1) 5 0 512 0), (776, o_iload 5 2), (778, o_ic (fun a b => a = b) 783), (781, o_i 0 1), (782, o_zret), (783, o_iload 5 2), (785, o_ifn (fun a => a = 0) 800), (788, o_aload 3 1), (789, o_i 0 1), (790, o_laload), (791, o_iload 6 2), (793, o_i2l), (794, o_lcmp), (795, o_if (fun a => a = 0) 800), (798, o_i 0 1), (799, o_zret), (800, o_goto 1355), (803, o_aload 1 1), (804, o_callVP (xRun tb_N_cancel 2) 0 0 512 0), (807, o_aload 2 1), (808, o_callVP (xRun tb_M_cancel 3) 5 0 512 0), (811, o_ic (fun a b => a = b) 1355), (814, o_i 0 1), (815, o_zret), (816, o_aload 1 1), (817, o_callVP (xRun tb_N_classes 1) 0 0 512 0), (820, o_aload 2 1), (821, o_callVP (xRun tb_M_classes 1) 5 0 512 0), (824, o_ic (fun a b => a = b) 1355), (827, o_i 0 1), (828, o_zret), (829, o_aload 1 1), (830, o_aload 0 1), (831, o_iload 4 2), (833, o_i 1 1), (834, o_ii (fun a b => a + b)), (835, o_sload L xs), (836, o_aload 0 1), (837, o_iload 4 2), (839, o_i 2 1), (840, o_ii (fun a b => a + b)), (841, o_sload L xs), (842, o_if (fun a => a = 0) 849), (845, o_i 1 1), (846, o_goto 850), (849, o_i 0 1), (850, o_aload 3 1), (851, o_callP (xRun tb_L_className 5) 4 512 1), (854, o_istore 5 2), (856, o_aload 2 1), (857, o_aload 0 1), (858, o_iload 4 2), (860, o_i 1 1), (861, o_ii (fun a b => a + b)), (862, o_sload L xs), (863, o_aload 0 1), (864, o_iload 4 2), (866, o_i 2 1), (867, o_ii (fun a b => a + b)), (868, o_sload L xs), (869, o_if (fun a => a = 0) 876), (872, o_i 1 1), (873, o_goto 877), (876, o_i 0 1), (877, o_callVP (xRun tb_M_className 3) 5 2 512 0), (880, o_lstore 6 2), (882, o_aload 2 1), (883, o_callVP (xRun tb_M_thrown 1) 5 0 512 0), (886, o_iload 5 2), (888, o_ic (fun a b => a = b) 893), (891, o_i 0 1), (892, o_zret), (893, o_iload 5 2), (895, o_ifn (fun a => a = 0) 909), (898, o_aload 3 1), (899, o_i 0 1), (900, o_laload), (901, o_lload 6 2), (903, o_lcmp), (904, o_if (fun a => a = 0) 909), (907, o_i 0 1), (908, o_zret), (909, o_goto 1355), (912, o_aload 1 1), (913, o_aload 0 1), (914, o_iload 4 2), (916, o_i 1 1), (917, o_ii (fun a b => a + b)), (918, o_sload L xs), (919, o_aload 0 1), (920, o_iload 4 2), (922, o_i 2 1), (923, o_ii (fun a b => a + b)), (924, o_sload L xs), (925, o_aload 0 1), (926, o_iload 4 2), (928, o_i 3 1), (929, o_ii (fun a b => a + b)), (930, o_sload L xs), (931, o_if (fun a => a = 0) 938), (934, o_i 1 1), (935, o_goto 939), (938, o_i 0 1), (939, o_aload 3 1), (940, o_callP (xRun tb_L_memberName 6) 5 512 1), (943, o_istore 5 2), (945, o_aload 2 1), (946, o_aload 0 1), (947, o_iload 4 2), (949, o_i 1 1), (950, o_ii (fun a b => a + b)), (951, o_sload L xs), (952, o_aload 0 1), (953, o_iload 4 2), (955, o_i 2 1), (956, o_ii (fun a b => a + b)), (957, o_sload L xs), (958, o_aload 0 1), (959, o_iload 4 2), (961, o_i 3 1), (962, o_ii (fun a b => a + b)), (963, o_sload L xs), (964, o_if (fun a => a = 0) 971), (967, o_i 1 1), (968, o_goto 972), (971, o_i 0 1), (972, o_callVP (xRun tb_M_memberName 4) 5 3 512 0), (975, o_lstore 6 2), (977, o_aload 2 1), (978, o_callVP (xRun tb_M_thrown 1) 5 0 512 0), (981, o_iload 5 2), (983, o_ic (fun a b => a = b) 988), (986, o_i 0 1), (987, o_zret), (988, o_iload 5 2), (990, o_ifn (fun a => a = 0) 1004), (993, o_aload 3 1), (994, o_i 0 1), (995, o_laload), (996, o_lload 6 2), (998, o_lcmp), (999, o_if (fun a => a = 0) 1004), (1002, o_i 0 1), (1003, o_zret), (1004, o_goto 1355), (1007, o_aload 1 1), (1008, o_aload 0 1), (1009, o_iload 4 2), (1011, o_i 1 1), (1012, o_ii (fun a b => a + b)), (1013, o_sload L xs), (1014, o_aload 0 1), (1015, o_iload 4 2), (1017, o_i 2 1), (1018, o_ii (fun a b => a + b)), (1019, o_sload L xs), (1020, o_i2l), (1021, o_i 32 2), (1023, o_li xshl), (1024, o_aload 0 1), (1025, o_iload 4 2), (1027, o_i 3 1), (1028, o_ii (fun a b => a + b)), (1029, o_sload L xs), (1030, o_i2l), (1031, o_l 4294967295 3), (1034, o_ll (fun a b => a &&& b)), (1035, o_ll (fun a b => a ||| b)), (1036, o_aload 0 1), (1037, o_iload 4 2), (1039, o_i 4 1), (1040, o_ii (fun a b => a + b)), (1041, o_sload L xs), (1042, o_i2l), (1043, o_i 32 2), (1045, o_li xshl), (1046, o_aload 0 1), (1047, o_iload 4 2), (1049, o_i 5 1), (1050, o_ii (fun a b => a + b)), (1051, o_sload L xs), (1052, o_i2l), (1053, o_l 4294967295 3), (1056, o_ll (fun a b => a &&& b)), (1057, o_ll (fun a b => a ||| b)), (1058, o_aload 3 1), (1059, o_callP (xRun tb_L_find 8) 5 512 1), (1062, o_istore 5 2), (1064, o_aload 2 1), (1065, o_aload 0 1), (1066, o_iload 4 2), (1068, o_i 1 1), (1069, o_ii (fun a b => a + b)), (1070, o_sload L xs), (1071, o_aload 0 1), (1072, o_iload 4 2), (1074, o_i 2 1), (1075, o_ii (fun a b => a + b)), (1076, o_sload L xs), (1077, o_i2l), (1078, o_i 32 2), (1080, o_li xshl), (1081, o_aload 0 1), (1082, o_iload 4 2), (1084, o_i 3 1), (1085, o_ii (fun a b => a + b)), (1086, o_sload L xs), (1087, o_i2l), (1088, o_l 4294967295 3), (1091, o_ll (fun a b => a &&& b)), (1092, o_ll (fun a b => a ||| b)), (1093, o_aload 0 1), (1094, o_iload 4 2), (1096, o_i 4 1), (1097, o_ii (fun a b => a + b)), (1098, o_sload L xs), (1099, o_i2l), (1100, o_i 32 2), (1102, o_li xshl), (1103, o_aload 0 1), (1104, o_iload 4 2), (1106, o_i 5 1), (1107, o_ii (fun a b => a + b)), (1108, o_sload L xs), (1109, o_i2l), (1110, o_l 4294967295 3), (1113, o_ll (fun a b => a &&& b)), (1114, o_ll (fun a b => a ||| b)), (1115, o_callVP (xRun tb_M_find 8) 5 3 512 0), (1118, o_istore 6 2), (1120, o_aload 2 1), (1121, o_callVP (xRun tb_M_thrown 1) 5 0 512 0), (1124, o_iload 5 2), (1126, o_ic (fun a b => a = b) 1131), (1129, o_i 0 1), (1130, o_zret), (1131, o_iload 5 2), (1133, o_ifn (fun a => a = 0) 1148), (1136, o_aload 3 1), (1137, o_i 0 1), (1138, o_laload), (1139, o_iload 6 2), (1141, o_i2l), (1142, o_lcmp), (1143, o_if (fun a => a = 0) 1148), (1146, o_i 0 1), (1147, o_zret), (1148, o_goto 1355), (1151, o_aload 1 1), (1152, o_aload 0 1), (1153, o_iload 4 2), (1155, o_i 1 1), (1156, o_ii (fun a b => a + b)), (1157, o_sload L xs), (1158, o_aload 3 1), (1159, o_callP (xRun tb_L_write 4) 3 512 1), (1162, o_istore 5 2), (1164, o_aload 2 1), (1165, o_aload 0 1), (1166, o_iload 4 2), (1168, o_i 1 1), (1169, o_ii (fun a b => a + b)), (1170, o_sload L xs), (1171, o_callVP (xRun tb_M_write 3) 5 1 512 0), (1174, o_istore 6 2), (1176, o_aload 2 1), (1177, o_callVP (xRun tb_M_thrown 1) 5 0 512 0), (1180, o_iload 5 2), (1182, o_ic (fun a b => a = b) 1187), (1185, o_i 0 1), (1186, o_zret), (1187, o_iload 5 2), (1189, o_ifn (fun a => a = 0) 1204), (1192, o_aload 3 1), (1193, o_i 0 1), (1194, o_laload), (1195, o_iload 6 2), (1197, o_i2l), (1198, o_lcmp), (1199, o_if (fun a => a = 0) 1204), (1202, o_i 0 1), (1203, o_zret), (1204, o_goto 1355), (1207, o_aload 1 1), (1208, o_aload 0 1), (1209, o_iload 4 2), (1211, o_i 1 1), (1212, o_ii (fun a b => a + b)), (1213, o_sload L xs), (1214, o_aload 3 1), (1215, o_callP (xRun tb_L_byteAt 4) 3 512 1), (1218, o_istore 5 2), (1220, o_aload 2 1), (1221, o_aload 0 1), (1222, o_iload 4 2), (1224, o_i 1 1), (1225, o_ii (fun a b => a + b)), (1226, o_sload L xs), (1227, o_callVP (xRun tb_M_byteAt 2) 5 1 512 0), (1230, o_istore 6 2), (1232, o_aload 2 1), (1233, o_callVP (xRun tb_M_thrown 1) 5 0 512 0), (1236, o_iload 5 2), (1238, o_ic (fun a b => a = b) 1243), (1241, o_i 0 1), (1242, o_zret), (1243, o_iload 5 2), (1245, o_ifn (fun a => a = 0) 1260), (1248, o_aload 3 1), (1249, o_i 0 1), (1250, o_laload), (1251, o_iload 6 2), (1253, o_i2l), (1254, o_lcmp), (1255, o_if (fun a => a = 0) 1260), (1258, o_i 0 1), (1259, o_zret), (1260, o_goto 1355), (1263, o_aload 1 1), (1264, o_aload 0 1), (1265, o_iload 4 2), (1267, o_i 1 1), (1268, o_ii (fun a b => a + b)), (1269, o_sload L xs), (1270, o_aload 0 1), (1271, o_iload 4 2), (1273, o_i 2 1), (1274, o_ii (fun a b => a + b)), (1275, o_sload L xs), (1276, o_callP (xRun tb_L_poke 4) 3 512 1), (1279, o_istore 5 2), (1281, o_aload 2 1), (1282, o_aload 0 1), (1283, o_iload 4 2), (1285, o_i 1 1), (1286, o_ii (fun a b => a + b)), (1287, o_sload L xs), (1288, o_aload 0 1), (1289, o_iload 4 2), (1291, o_i 2 1), (1292, o_ii (fun a b => a + b)), (1293, o_sload L xs), (1294, o_callVP (xRun tb_M_poke 3) 5 2 512 0), (1297, o_aload 2 1), (1298, o_callVP (xRun tb_M_thrown 1) 5 0 512 0), (1301, o_iload 5 2), (1303, o_ic (fun a b => a = b) 1308), (1306, o_i 0 1), (1307, o_zret), (1308, o_goto 1355), (1311, o_aload 1 1), (1312, o_aload 3 1), (1313, o_callP (xRun tb_L_load 3) 2 512 1), (1316, o_istore 5 2), (1318, o_aload 2 1), (1319, o_callVP (xRun tb_M_load 3) 5 0 512 0), (1322, o_istore 6 2), (1324, o_aload 2 1), (1325, o_callVP (xRun tb_M_thrown 1) 5 0 512 0), (1328, o_iload 5 2), (1330, o_ic (fun a b => a = b) 1335), (1333, o_i 0 1), (1334, o_zret), (1335, o_iload 5 2), (1337, o_ifn (fun a => a = 0) 1352), (1340, o_aload 3 1), (1341, o_i 0 1), (1342, o_laload), (1343, o_iload 6 2), (1345, o_i2l), (1346, o_lcmp), (1347, o_if (fun a => a = 0) 1352), (1350, o_i 0 1), (1351, o_zret), (1352, o_goto 1355), (1355, o_iinc 4 7), (1358, o_goto 23), (1361, o_i 1 1), (1362, o_zret)]
set_option maxRecDepth 100000 in
theorem v_law {b L : Nat} {xs : Nat → Int32} : ∀ q ∈ tb_law L xs, xSd (42, 3852) (xEl b L xs) xCl "NameMoverLaw" xtt code 8 ret room_1 q :=
  xval (s_iload dl_23) (
  xval (s_aload_n (f := 0) dl_25 rfl) (
  xval (s_slen dl_26) (
  xval (s_bipush (z := 7) dl_27 (by decide)) (
  xval (s_isub dl_29) (
  xval (s_icgt (z := 1331) dl_30 (by decide)) (
  xval (s_aload_n (f := 0) dl_33 rfl) (
  xval (s_iload dl_34) (
  xval (s_sload dl_36) (
  xval (s_bipush (z := 15) dl_37 (by decide)) (
  xval (s_iand dl_39) (
  xval (s_sw (hi := 15) dl_40 rfl (by decide) (by decide +kernel)) (
  xval (s_aload_n (f := 1) dl_120 rfl) (
  xval (s_aload_n (f := 0) dl_121 rfl) (
  xval (s_iload dl_122) (
  xval (s_iconst (z := 1) dl_124 (by decide)) (
  xval (s_iadd dl_125) (
  xval (s_sload dl_126) (
  xval (s_i2l dl_127) (
  xval (s_bipush (z := 32) dl_128 (by decide)) (
  xval (s_lshl dl_130) (
  xval (s_aload_n (f := 0) dl_131 rfl) (
  xval (s_iload dl_132) (
  xval (s_iconst (z := 2) dl_134 (by decide)) (
  xval (s_iadd dl_135) (
  xval (s_sload dl_136) (
  xval (s_i2l dl_137) (
  xval (s_ldc2 (i := 71) dl_138 tw_1065) (
  xval (s_land dl_141) (
  xval (s_lor dl_142) (
  xval (s_aload_n (f := 0) dl_143 rfl) (
  xval (s_iload dl_144) (
  xval (s_iconst (z := 3) dl_146 (by decide)) (
  xval (s_iadd dl_147) (
  xval (s_sload dl_148) (
  xval (s_aload_n (f := 0) dl_149 rfl) (
  xval (s_iload dl_150) (
  xval (s_iconst (z := 4) dl_152 (by decide)) (
  xval (s_iadd dl_153) (
  xval (s_sload dl_154) (
  xval (s_ifeq (z := 7) dl_155 (by decide)) (
  xval (s_iconst (z := 1) dl_158 (by decide)) (
  xval (s_goto (z := 4) dl_159 (by decide)) (
  xval (s_iconst (z := 0) dl_162 (by decide)) (
  xval (s_aload_n (f := 3) dl_163 rfl) (
  xval (xSd.imp (s_callSW (i := 73) c_L_declare dl_164 rfl (xtt_good0 tw_259) tw_257 tw_258 tw_0 ⟨by decide, by decide, by decide +kernel⟩ ⟨by decide, by decide, rfl, rfl, by decide, by decide⟩ xEl_e) o_callP_i) (
  xval (s_istore dl_167 (by decide)) (
  xval (s_aload_n (f := 2) dl_169 rfl) (
  xval (s_aload_n (f := 0) dl_170 rfl) (
  xval (s_iload dl_171) (
  xval (s_iconst (z := 1) dl_173 (by decide)) (
  xval (s_iadd dl_174) (
  xval (s_sload dl_175) (
  xval (s_i2l dl_176) (
  xval (s_bipush (z := 32) dl_177 (by decide)) (
  xval (s_lshl dl_179) (
  xval (s_aload_n (f := 0) dl_180 rfl) (
  xval (s_iload dl_181) (
  xval (s_iconst (z := 2) dl_183 (by decide)) (
  xval (s_iadd dl_184) (
  xval (s_sload dl_185) (
  xval (s_i2l dl_186) (
  xval (s_ldc2 (i := 71) dl_187 tw_1065) (
  xval (s_land dl_190) (
  xval (s_lor dl_191) (
  xval (s_aload_n (f := 0) dl_192 rfl) (
  xval (s_iload dl_193) (
  xval (s_iconst (z := 3) dl_195 (by decide)) (
  xval (s_iadd dl_196) (
  xval (s_sload dl_197) (
  xval (s_aload_n (f := 0) dl_198 rfl) (
  xval (s_iload dl_199) (
  xval (s_iconst (z := 4) dl_201 (by decide)) (
  xval (s_iadd dl_202) (
  xval (s_sload dl_203) (
  xval (s_ifeq (z := 7) dl_204 (by decide)) (
  xval (s_iconst (z := 1) dl_207 (by decide)) (
  xval (s_goto (z := 4) dl_208 (by decide)) (
  xval (s_iconst (z := 0) dl_211 (by decide)) (
  xval (xSd.imp (s_callV (i := 78) c_M_declare dl_212 rfl (xtt_good0 tw_843) rfl tw_840 tw_841 tw_842 tw_6 ⟨by decide, by decide, by decide +kernel⟩ ⟨by decide, by decide, rfl, rfl, by decide, by decide⟩ xEl_e) o_callVP_i) (
  xval (s_istore dl_215 (by decide)) (
  xval (s_aload_n (f := 2) dl_217 rfl) (
  xval (xSd.imp (s_callV (i := 79) c_M_thrown dl_218 rfl (xtt_good0 tw_839) rfl tw_836 tw_837 tw_838 tw_6 ⟨by decide, by decide, by decide +kernel⟩ ⟨by decide, by decide, rfl, rfl, by decide, by decide⟩ xEl_e) o_callVP_i) (
  xval (s_iload dl_221) (
  xval (s_iceq (z := 5) dl_223 (by decide)) (
  xval (s_iconst (z := 0) dl_226 (by decide)) (
  xval (s_zret dl_227) (
  xval (s_iload dl_228) (
  xval (s_ifne (z := 15) dl_230 (by decide)) (
  xval (s_aload_n (f := 3) dl_233 rfl) (
  xval (s_iconst (z := 0) dl_234 (by decide)) (
  xval (s_laload dl_235) (
  xval (s_iload dl_236) (
  xval (s_i2l dl_238) (
  xval (s_lcmp dl_239) (
  xval (s_ifeq (z := 5) dl_240 (by decide)) (
  xval (s_iconst (z := 0) dl_243 (by decide)) (
  xval (s_zret dl_244) (
  xval (s_goto (z := 1110) dl_245 (by decide)) (
  xval (s_aload_n (f := 1) dl_248 rfl) (
  xval (s_aload_n (f := 0) dl_249 rfl) (
  xval (s_iload dl_250) (
  xval (s_iconst (z := 1) dl_252 (by decide)) (
  xval (s_iadd dl_253) (
  xval (s_sload dl_254) (
  xval (s_aload_n (f := 0) dl_255 rfl) (
  xval (s_iload dl_256) (
  xval (s_iconst (z := 2) dl_258 (by decide)) (
  xval (s_iadd dl_259) (
  xval (s_sload dl_260) (
  xval (s_i2l dl_261) (
  xval (s_bipush (z := 32) dl_262 (by decide)) (
  xval (s_lshl dl_264) (
  xval (s_aload_n (f := 0) dl_265 rfl) (
  xval (s_iload dl_266) (
  xval (s_iconst (z := 3) dl_268 (by decide)) (
  xval (s_iadd dl_269) (
  xval (s_sload dl_270) (
  xval (s_i2l dl_271) (
  xval (s_ldc2 (i := 71) dl_272 tw_1065) (
  xval (s_land dl_275) (
  xval (s_lor dl_276) (
  xval (s_aload_n (f := 0) dl_277 rfl) (
  xval (s_iload dl_278) (
  xval (s_iconst (z := 4) dl_280 (by decide)) (
  xval (s_iadd dl_281) (
  xval (s_sload dl_282) (
  xval (s_i2l dl_283) (
  xval (s_bipush (z := 32) dl_284 (by decide)) (
  xval (s_lshl dl_286) (
  xval (s_aload_n (f := 0) dl_287 rfl) (
  xval (s_iload dl_288) (
  xval (s_iconst (z := 5) dl_290 (by decide)) (
  xval (s_iadd dl_291) (
  xval (s_sload dl_292) (
  xval (s_i2l dl_293) (
  xval (s_ldc2 (i := 71) dl_294 tw_1065) (
  xval (s_land dl_297) (
  xval (s_lor dl_298) (
  xval (s_aload_n (f := 0) dl_299 rfl) (
  xval (s_iload dl_300) (
  xval (s_bipush (z := 6) dl_302 (by decide)) (
  xval (s_iadd dl_304) (
  xval (s_sload dl_305) (
  xval (s_ifeq (z := 7) dl_306 (by decide)) (
  xval (s_iconst (z := 1) dl_309 (by decide)) (
  xval (s_goto (z := 4) dl_310 (by decide)) (
  xval (s_iconst (z := 0) dl_313 (by decide)) (
  xval (s_aload_n (f := 3) dl_314 rfl) (
  xval (xSd.imp (s_callSW (i := 82) c_L_member dl_315 rfl (xtt_good0 tw_404) tw_402 tw_403 tw_0 ⟨by decide, by decide, by decide +kernel⟩ ⟨by decide, by decide, rfl, rfl, by decide, by decide⟩ xEl_e) o_callP_i) (
  xval (s_istore dl_318 (by decide)) (
  xval (s_aload_n (f := 2) dl_320 rfl) (
  xval (s_aload_n (f := 0) dl_321 rfl) (
  xval (s_iload dl_322) (
  xval (s_iconst (z := 1) dl_324 (by decide)) (
  xval (s_iadd dl_325) (
  xval (s_sload dl_326) (
  xval (s_aload_n (f := 0) dl_327 rfl) (
  xval (s_iload dl_328) (
  xval (s_iconst (z := 2) dl_330 (by decide)) (
  xval (s_iadd dl_331) (
  xval (s_sload dl_332) (
  xval (s_i2l dl_333) (
  xval (s_bipush (z := 32) dl_334 (by decide)) (
  xval (s_lshl dl_336) (
  xval (s_aload_n (f := 0) dl_337 rfl) (
  xval (s_iload dl_338) (
  xval (s_iconst (z := 3) dl_340 (by decide)) (
  xval (s_iadd dl_341) (
  xval (s_sload dl_342) (
  xval (s_i2l dl_343) (
  xval (s_ldc2 (i := 71) dl_344 tw_1065) (
  xval (s_land dl_347) (
  xval (s_lor dl_348) (
  xval (s_aload_n (f := 0) dl_349 rfl) (
  xval (s_iload dl_350) (
  xval (s_iconst (z := 4) dl_352 (by decide)) (
  xval (s_iadd dl_353) (
  xval (s_sload dl_354) (
  xval (s_i2l dl_355) (
  xval (s_bipush (z := 32) dl_356 (by decide)) (
  xval (s_lshl dl_358) (
  xval (s_aload_n (f := 0) dl_359 rfl) (
  xval (s_iload dl_360) (
  xval (s_iconst (z := 5) dl_362 (by decide)) (
  xval (s_iadd dl_363) (
  xval (s_sload dl_364) (
  xval (s_i2l dl_365) (
  xval (s_ldc2 (i := 71) dl_366 tw_1065) (
  xval (s_land dl_369) (
  xval (s_lor dl_370) (
  xval (s_aload_n (f := 0) dl_371 rfl) (
  xval (s_iload dl_372) (
  xval (s_bipush (z := 6) dl_374 (by decide)) (
  xval (s_iadd dl_376) (
  xval (s_sload dl_377) (
  xval (s_ifeq (z := 7) dl_378 (by decide)) (
  xval (s_iconst (z := 1) dl_381 (by decide)) (
  xval (s_goto (z := 4) dl_382 (by decide)) (
  xval (s_iconst (z := 0) dl_385 (by decide)) (
  xval (xSd.imp (s_callV (i := 85) c_M_member dl_386 rfl (xtt_good0 tw_882) rfl tw_879 tw_880 tw_881 tw_6 ⟨by decide, by decide, by decide +kernel⟩ ⟨by decide, by decide, rfl, rfl, by decide, by decide⟩ xEl_e) o_callVP_i) (
  xval (s_istore dl_389 (by decide)) (
  xval (s_aload_n (f := 2) dl_391 rfl) (
  xval (xSd.imp (s_callV (i := 79) c_M_thrown dl_392 rfl (xtt_good0 tw_839) rfl tw_836 tw_837 tw_838 tw_6 ⟨by decide, by decide, by decide +kernel⟩ ⟨by decide, by decide, rfl, rfl, by decide, by decide⟩ xEl_e) o_callVP_i) (
  xval (s_iload dl_395) (
  xval (s_iceq (z := 5) dl_397 (by decide)) (
  xval (s_iconst (z := 0) dl_400 (by decide)) (
  xval (s_zret dl_401) (
  xval (s_iload dl_402) (
  xval (s_ifne (z := 15) dl_404 (by decide)) (
  xval (s_aload_n (f := 3) dl_407 rfl) (
  xval (s_iconst (z := 0) dl_408 (by decide)) (
  xval (s_laload dl_409) (
  xval (s_iload dl_410) (
  xval (s_i2l dl_412) (
  xval (s_lcmp dl_413) (
  xval (s_ifeq (z := 5) dl_414 (by decide)) (
  xval (s_iconst (z := 0) dl_417 (by decide)) (
  xval (s_zret dl_418) (
  xval (s_goto (z := 936) dl_419 (by decide)) (
  xval (s_aload_n (f := 1) dl_422 rfl) (
  xval (s_aload_n (f := 0) dl_423 rfl) (
  xval (s_iload dl_424) (
  xval (s_iconst (z := 1) dl_426 (by decide)) (
  xval (s_iadd dl_427) (
  xval (s_sload dl_428) (
  xval (s_aload_n (f := 0) dl_429 rfl) (
  xval (s_iload dl_430) (
  xval (s_iconst (z := 2) dl_432 (by decide)) (
  xval (s_iadd dl_433) (
  xval (s_sload dl_434) (
  xval (s_i2l dl_435) (
  xval (s_bipush (z := 32) dl_436 (by decide)) (
  xval (s_lshl dl_438) (
  xval (s_aload_n (f := 0) dl_439 rfl) (
  xval (s_iload dl_440) (
  xval (s_iconst (z := 3) dl_442 (by decide)) (
  xval (s_iadd dl_443) (
  xval (s_sload dl_444) (
  xval (s_i2l dl_445) (
  xval (s_ldc2 (i := 71) dl_446 tw_1065) (
  xval (s_land dl_449) (
  xval (s_lor dl_450) (
  xval (xSd.imp (s_callSW (i := 86) c_L_moveClass dl_451 rfl (xtt_good0 tw_454) tw_452 tw_453 tw_0 ⟨by decide, by decide, by decide +kernel⟩ ⟨by decide, by decide, rfl, rfl, by decide, by decide⟩ xEl_e) o_callP_i) (
  xval (s_istore dl_454 (by decide)) (
  xval (s_aload_n (f := 2) dl_456 rfl) (
  xval (s_aload_n (f := 0) dl_457 rfl) (
  xval (s_iload dl_458) (
  xval (s_iconst (z := 1) dl_460 (by decide)) (
  xval (s_iadd dl_461) (
  xval (s_sload dl_462) (
  xval (s_aload_n (f := 0) dl_463 rfl) (
  xval (s_iload dl_464) (
  xval (s_iconst (z := 2) dl_466 (by decide)) (
  xval (s_iadd dl_467) (
  xval (s_sload dl_468) (
  xval (s_i2l dl_469) (
  xval (s_bipush (z := 32) dl_470 (by decide)) (
  xval (s_lshl dl_472) (
  xval (s_aload_n (f := 0) dl_473 rfl) (
  xval (s_iload dl_474) (
  xval (s_iconst (z := 3) dl_476 (by decide)) (
  xval (s_iadd dl_477) (
  xval (s_sload dl_478) (
  xval (s_i2l dl_479) (
  xval (s_ldc2 (i := 71) dl_480 tw_1065) (
  xval (s_land dl_483) (
  xval (s_lor dl_484) (
  xval (xSd.imp (s_callV (i := 89) c_M_moveClass dl_485 rfl (xtt_good0 tw_902) rfl tw_899 tw_900 tw_901 tw_6 ⟨by decide, by decide, by decide +kernel⟩ ⟨by decide, by decide, rfl, rfl, by decide, by decide⟩ xEl_e) o_callVP_i) (
  xval (s_aload_n (f := 2) dl_488 rfl) (
  xval (xSd.imp (s_callV (i := 79) c_M_thrown dl_489 rfl (xtt_good0 tw_839) rfl tw_836 tw_837 tw_838 tw_6 ⟨by decide, by decide, by decide +kernel⟩ ⟨by decide, by decide, rfl, rfl, by decide, by decide⟩ xEl_e) o_callVP_i) (
  xval (s_iload dl_492) (
  xval (s_iceq (z := 5) dl_494 (by decide)) (
  xval (s_iconst (z := 0) dl_497 (by decide)) (
  xval (s_zret dl_498) (
  xval (s_goto (z := 856) dl_499 (by decide)) (
  xval (s_aload_n (f := 1) dl_502 rfl) (
  xval (s_aload_n (f := 0) dl_503 rfl) (
  xval (s_iload dl_504) (
  xval (s_iconst (z := 1) dl_506 (by decide)) (
  xval (s_iadd dl_507) (
  xval (s_sload dl_508) (
  xval (s_i2l dl_509) (
  xval (s_bipush (z := 32) dl_510 (by decide)) (
  xval (s_lshl dl_512) (
  xval (s_aload_n (f := 0) dl_513 rfl) (
  xval (s_iload dl_514) (
  xval (s_iconst (z := 2) dl_516 (by decide)) (
  xval (s_iadd dl_517) (
  xval (s_sload dl_518) (
  xval (s_i2l dl_519) (
  xval (s_ldc2 (i := 71) dl_520 tw_1065) (
  xval (s_land dl_523) (
  xval (s_lor dl_524) (
  xval (s_aload_n (f := 0) dl_525 rfl) (
  xval (s_iload dl_526) (
  xval (s_iconst (z := 3) dl_528 (by decide)) (
  xval (s_iadd dl_529) (
  xval (s_sload dl_530) (
  xval (s_i2l dl_531) (
  xval (s_bipush (z := 32) dl_532 (by decide)) (
  xval (s_lshl dl_534) (
  xval (s_aload_n (f := 0) dl_535 rfl) (
  xval (s_iload dl_536) (
  xval (s_iconst (z := 4) dl_538 (by decide)) (
  xval (s_iadd dl_539) (
  xval (s_sload dl_540) (
  xval (s_i2l dl_541) (
  xval (s_ldc2 (i := 71) dl_542 tw_1065) (
  xval (s_land dl_545) (
  xval (s_lor dl_546) (
  xval (s_aload_n (f := 3) dl_547 rfl) (
  xval (xSd.imp (s_callSW (i := 90) c_L_movePackage dl_548 rfl (xtt_good0 tw_461) tw_459 tw_460 tw_0 ⟨by decide, by decide, by decide +kernel⟩ ⟨by decide, by decide, rfl, rfl, by decide, by decide⟩ xEl_e) o_callP_i) (
  xval (s_istore dl_551 (by decide)) (
  xval (s_aload_n (f := 2) dl_553 rfl) (
  xval (s_aload_n (f := 0) dl_554 rfl) (
  xval (s_iload dl_555) (
  xval (s_iconst (z := 1) dl_557 (by decide)) (
  xval (s_iadd dl_558) (
  xval (s_sload dl_559) (
  xval (s_i2l dl_560) (
  xval (s_bipush (z := 32) dl_561 (by decide)) (
  xval (s_lshl dl_563) (
  xval (s_aload_n (f := 0) dl_564 rfl) (
  xval (s_iload dl_565) (
  xval (s_iconst (z := 2) dl_567 (by decide)) (
  xval (s_iadd dl_568) (
  xval (s_sload dl_569) (
  xval (s_i2l dl_570) (
  xval (s_ldc2 (i := 71) dl_571 tw_1065) (
  xval (s_land dl_574) (
  xval (s_lor dl_575) (
  xval (s_aload_n (f := 0) dl_576 rfl) (
  xval (s_iload dl_577) (
  xval (s_iconst (z := 3) dl_579 (by decide)) (
  xval (s_iadd dl_580) (
  xval (s_sload dl_581) (
  xval (s_i2l dl_582) (
  xval (s_bipush (z := 32) dl_583 (by decide)) (
  xval (s_lshl dl_585) (
  xval (s_aload_n (f := 0) dl_586 rfl) (
  xval (s_iload dl_587) (
  xval (s_iconst (z := 4) dl_589 (by decide)) (
  xval (s_iadd dl_590) (
  xval (s_sload dl_591) (
  xval (s_i2l dl_592) (
  xval (s_ldc2 (i := 71) dl_593 tw_1065) (
  xval (s_land dl_596) (
  xval (s_lor dl_597) (
  xval (xSd.imp (s_callV (i := 93) c_M_movePackage dl_598 rfl (xtt_good0 tw_906) rfl tw_903 tw_904 tw_905 tw_6 ⟨by decide, by decide, by decide +kernel⟩ ⟨by decide, by decide, rfl, rfl, by decide, by decide⟩ xEl_e) o_callVP_i) (
  xval (s_istore dl_601 (by decide)) (
  xval (s_aload_n (f := 2) dl_603 rfl) (
  xval (xSd.imp (s_callV (i := 79) c_M_thrown dl_604 rfl (xtt_good0 tw_839) rfl tw_836 tw_837 tw_838 tw_6 ⟨by decide, by decide, by decide +kernel⟩ ⟨by decide, by decide, rfl, rfl, by decide, by decide⟩ xEl_e) o_callVP_i) (
  xval (s_iload dl_607) (
  xval (s_iceq (z := 5) dl_609 (by decide)) (
  xval (s_iconst (z := 0) dl_612 (by decide)) (
  xval (s_zret dl_613) (
  xval (s_iload dl_614) (
  xval (s_ifne (z := 15) dl_616 (by decide)) (
  xval (s_aload_n (f := 3) dl_619 rfl) (
  xval (s_iconst (z := 0) dl_620 (by decide)) (
  xval (s_laload dl_621) (
  xval (s_iload dl_622) (
  xval (s_i2l dl_624) (
  xval (s_lcmp dl_625) (
  xval (s_ifeq (z := 5) dl_626 (by decide)) (
  xval (s_iconst (z := 0) dl_629 (by decide)) (
  xval (s_zret dl_630) (
  xval (s_goto (z := 724) dl_631 (by decide)) (
  xval (s_aload_n (f := 1) dl_634 rfl) (
  xval (s_aload_n (f := 0) dl_635 rfl) (
  xval (s_iload dl_636) (
  xval (s_iconst (z := 1) dl_638 (by decide)) (
  xval (s_iadd dl_639) (
  xval (s_sload dl_640) (
  xval (s_aload_n (f := 0) dl_641 rfl) (
  xval (s_iload dl_642) (
  xval (s_iconst (z := 2) dl_644 (by decide)) (
  xval (s_iadd dl_645) (
  xval (s_sload dl_646) (
  xval (s_aload_n (f := 0) dl_647 rfl) (
  xval (s_iload dl_648) (
  xval (s_iconst (z := 3) dl_650 (by decide)) (
  xval (s_iadd dl_651) (
  xval (s_sload dl_652) (
  xval (s_i2l dl_653) (
  xval (s_bipush (z := 32) dl_654 (by decide)) (
  xval (s_lshl dl_656) (
  xval (s_aload_n (f := 0) dl_657 rfl) (
  xval (s_iload dl_658) (
  xval (s_iconst (z := 4) dl_660 (by decide)) (
  xval (s_iadd dl_661) (
  xval (s_sload dl_662) (
  xval (s_i2l dl_663) (
  xval (s_ldc2 (i := 71) dl_664 tw_1065) (
  xval (s_land dl_667) (
  xval (s_lor dl_668) (
  xval (s_aload_n (f := 3) dl_669 rfl) (
  xval (xSd.imp (s_callSW (i := 94) c_L_moveMember dl_670 rfl (xtt_good0 tw_494) tw_492 tw_493 tw_0 ⟨by decide, by decide, by decide +kernel⟩ ⟨by decide, by decide, rfl, rfl, by decide, by decide⟩ xEl_e) o_callP_i) (
  xval (s_istore dl_673 (by decide)) (
  xval (s_aload_n (f := 2) dl_675 rfl) (
  xval (s_aload_n (f := 0) dl_676 rfl) (
  xval (s_iload dl_677) (
  xval (s_iconst (z := 1) dl_679 (by decide)) (
  xval (s_iadd dl_680) (
  xval (s_sload dl_681) (
  xval (s_aload_n (f := 0) dl_682 rfl) (
  xval (s_iload dl_683) (
  xval (s_iconst (z := 2) dl_685 (by decide)) (
  xval (s_iadd dl_686) (
  xval (s_sload dl_687) (
  xval (s_aload_n (f := 0) dl_688 rfl) (
  xval (s_iload dl_689) (
  xval (s_iconst (z := 3) dl_691 (by decide)) (
  xval (s_iadd dl_692) (
  xval (s_sload dl_693) (
  xval (s_i2l dl_694) (
  xval (s_bipush (z := 32) dl_695 (by decide)) (
  xval (s_lshl dl_697) (
  xval (s_aload_n (f := 0) dl_698 rfl) (
  xval (s_iload dl_699) (
  xval (s_iconst (z := 4) dl_701 (by decide)) (
  xval (s_iadd dl_702) (
  xval (s_sload dl_703) (
  xval (s_i2l dl_704) (
  xval (s_ldc2 (i := 71) dl_705 tw_1065) (
  xval (s_land dl_708) (
  xval (s_lor dl_709) (
  xval (xSd.imp (s_callV (i := 97) c_M_moveMember dl_710 rfl (xtt_good0 tw_923) rfl tw_920 tw_921 tw_922 tw_6 ⟨by decide, by decide, by decide +kernel⟩ ⟨by decide, by decide, rfl, rfl, by decide, by decide⟩ xEl_e) o_callVP_i) (
  xval (s_istore dl_713 (by decide)) (
  xval (s_aload_n (f := 2) dl_715 rfl) (
  xval (xSd.imp (s_callV (i := 79) c_M_thrown dl_716 rfl (xtt_good0 tw_839) rfl tw_836 tw_837 tw_838 tw_6 ⟨by decide, by decide, by decide +kernel⟩ ⟨by decide, by decide, rfl, rfl, by decide, by decide⟩ xEl_e) o_callVP_i) (
  xval (s_iload dl_719) (
  xval (s_iceq (z := 5) dl_721 (by decide)) (
  xval (s_iconst (z := 0) dl_724 (by decide)) (
  xval (s_zret dl_725) (
  xval (s_iload dl_726) (
  xval (s_ifne (z := 15) dl_728 (by decide)) (
  xval (s_aload_n (f := 3) dl_731 rfl) (
  xval (s_iconst (z := 0) dl_732 (by decide)) (
  xval (s_laload dl_733) (
  xval (s_iload dl_734) (
  xval (s_i2l dl_736) (
  xval (s_lcmp dl_737) (
  xval (s_ifeq (z := 5) dl_738 (by decide)) (
  xval (s_iconst (z := 0) dl_741 (by decide)) (
  xval (s_zret dl_742) (
  xval (s_goto (z := 612) dl_743 (by decide)) (
  xval (s_aload_n (f := 1) dl_746 rfl) (
  xval (xSd.imp (s_callV (i := 98) c_N_problem dl_747 rfl (xtt_good0 tw_172) rfl tw_169 tw_170 tw_171 tw_1 ⟨by decide, by decide, by decide +kernel⟩ ⟨by decide, by decide, rfl, rfl, by decide, by decide⟩ xEl_e) o_callVP_i) (
  xval (s_aload_n (f := 2) dl_750 rfl) (
  xval (xSd.imp (s_callV (i := 101) c_M_problem dl_751 rfl (xtt_good0 tw_951) rfl tw_948 tw_949 tw_950 tw_6 ⟨by decide, by decide, by decide +kernel⟩ ⟨by decide, by decide, rfl, rfl, by decide, by decide⟩ xEl_e) o_callVP_i) (
  xval (s_iceq (z := 601) dl_754 (by decide)) (
  xval (s_iconst (z := 0) dl_757 (by decide)) (
  xval (s_zret dl_758) (
  xval (s_aload_n (f := 1) dl_759 rfl) (
  xval (s_aload_n (f := 3) dl_760 rfl) (
  xval (xSd.imp (s_callSW (i := 102) c_L_apply dl_761 rfl (xtt_good0 tw_527) tw_525 tw_526 tw_0 ⟨by decide, by decide, by decide +kernel⟩ ⟨by decide, by decide, rfl, rfl, by decide, by decide⟩ xEl_e) o_callP_i) (
  xval (s_istore dl_764 (by decide)) (
  xval (s_aload_n (f := 2) dl_766 rfl) (
  xval (xSd.imp (s_callV (i := 105) c_M_apply dl_767 rfl (xtt_good0 tw_972) rfl tw_969 tw_970 tw_971 tw_6 ⟨by decide, by decide, by decide +kernel⟩ ⟨by decide, by decide, rfl, rfl, by decide, by decide⟩ xEl_e) o_callVP_i) (
  xval (s_istore dl_770 (by decide)) (
  xval (s_aload_n (f := 2) dl_772 rfl) (
  xval (xSd.imp (s_callV (i := 79) c_M_thrown dl_773 rfl (xtt_good0 tw_839) rfl tw_836 tw_837 tw_838 tw_6 ⟨by decide, by decide, by decide +kernel⟩ ⟨by decide, by decide, rfl, rfl, by decide, by decide⟩ xEl_e) o_callVP_i) (
  xval (s_iload dl_776) (
  xval (s_iceq (z := 5) dl_778 (by decide)) (
  xval (s_iconst (z := 0) dl_781 (by decide)) (
  xval (s_zret dl_782) (
  xval (s_iload dl_783) (
  xval (s_ifne (z := 15) dl_785 (by decide)) (
  xval (s_aload_n (f := 3) dl_788 rfl) (
  xval (s_iconst (z := 0) dl_789 (by decide)) (
  xval (s_laload dl_790) (
  xval (s_iload dl_791) (
  xval (s_i2l dl_793) (
  xval (s_lcmp dl_794) (
  xval (s_ifeq (z := 5) dl_795 (by decide)) (
  xval (s_iconst (z := 0) dl_798 (by decide)) (
  xval (s_zret dl_799) (
  xval (s_goto (z := 555) dl_800 (by decide)) (
  xval (s_aload_n (f := 1) dl_803 rfl) (
  xval (xSd.imp (s_callV (i := 106) c_N_cancel dl_804 rfl (xtt_good0 tw_239) rfl tw_236 tw_237 tw_238 tw_1 ⟨by decide, by decide, by decide +kernel⟩ ⟨by decide, by decide, rfl, rfl, by decide, by decide⟩ xEl_e) o_callVP_i) (
  xval (s_aload_n (f := 2) dl_807 rfl) (
  xval (xSd.imp (s_callV (i := 109) c_M_cancel dl_808 rfl (xtt_good0 tw_976) rfl tw_973 tw_974 tw_975 tw_6 ⟨by decide, by decide, by decide +kernel⟩ ⟨by decide, by decide, rfl, rfl, by decide, by decide⟩ xEl_e) o_callVP_i) (
  xval (s_iceq (z := 544) dl_811 (by decide)) (
  xval (s_iconst (z := 0) dl_814 (by decide)) (
  xval (s_zret dl_815) (
  xval (s_aload_n (f := 1) dl_816 rfl) (
  xval (xSd.imp (s_callV (i := 110) c_N_classes dl_817 rfl (xtt_good0 tw_256) rfl tw_253 tw_254 tw_255 tw_1 ⟨by decide, by decide, by decide +kernel⟩ ⟨by decide, by decide, rfl, rfl, by decide, by decide⟩ xEl_e) o_callVP_i) (
  xval (s_aload_n (f := 2) dl_820 rfl) (
  xval (xSd.imp (s_callV (i := 113) c_M_classes dl_821 rfl (xtt_good0 tw_980) rfl tw_977 tw_978 tw_979 tw_6 ⟨by decide, by decide, by decide +kernel⟩ ⟨by decide, by decide, rfl, rfl, by decide, by decide⟩ xEl_e) o_callVP_i) (
  xval (s_iceq (z := 531) dl_824 (by decide)) (
  xval (s_iconst (z := 0) dl_827 (by decide)) (
  xval (s_zret dl_828) (
  xval (s_aload_n (f := 1) dl_829 rfl) (
  xval (s_aload_n (f := 0) dl_830 rfl) (
  xval (s_iload dl_831) (
  xval (s_iconst (z := 1) dl_833 (by decide)) (
  xval (s_iadd dl_834) (
  xval (s_sload dl_835) (
  xval (s_aload_n (f := 0) dl_836 rfl) (
  xval (s_iload dl_837) (
  xval (s_iconst (z := 2) dl_839 (by decide)) (
  xval (s_iadd dl_840) (
  xval (s_sload dl_841) (
  xval (s_ifeq (z := 7) dl_842 (by decide)) (
  xval (s_iconst (z := 1) dl_845 (by decide)) (
  xval (s_goto (z := 4) dl_846 (by decide)) (
  xval (s_iconst (z := 0) dl_849 (by decide)) (
  xval (s_aload_n (f := 3) dl_850 rfl) (
  xval (xSd.imp (s_callSW (i := 114) c_L_className dl_851 rfl (xtt_good0 tw_539) tw_537 tw_538 tw_0 ⟨by decide, by decide, by decide +kernel⟩ ⟨by decide, by decide, rfl, rfl, by decide, by decide⟩ xEl_e) o_callP_i) (
  xval (s_istore dl_854 (by decide)) (
  xval (s_aload_n (f := 2) dl_856 rfl) (
  xval (s_aload_n (f := 0) dl_857 rfl) (
  xval (s_iload dl_858) (
  xval (s_iconst (z := 1) dl_860 (by decide)) (
  xval (s_iadd dl_861) (
  xval (s_sload dl_862) (
  xval (s_aload_n (f := 0) dl_863 rfl) (
  xval (s_iload dl_864) (
  xval (s_iconst (z := 2) dl_866 (by decide)) (
  xval (s_iadd dl_867) (
  xval (s_sload dl_868) (
  xval (s_ifeq (z := 7) dl_869 (by decide)) (
  xval (s_iconst (z := 1) dl_872 (by decide)) (
  xval (s_goto (z := 4) dl_873 (by decide)) (
  xval (s_iconst (z := 0) dl_876 (by decide)) (
  xval (xSd.imp (s_callV (i := 117) c_M_className dl_877 rfl (xtt_good0 tw_984) rfl tw_981 tw_982 tw_983 tw_6 ⟨by decide, by decide, by decide +kernel⟩ ⟨by decide, by decide, rfl, rfl, by decide, by decide⟩ xEl_e) o_callVP_i) (
  xval (s_lstore dl_880 (by decide)) (
  xval (s_aload_n (f := 2) dl_882 rfl) (
  xval (xSd.imp (s_callV (i := 79) c_M_thrown dl_883 rfl (xtt_good0 tw_839) rfl tw_836 tw_837 tw_838 tw_6 ⟨by decide, by decide, by decide +kernel⟩ ⟨by decide, by decide, rfl, rfl, by decide, by decide⟩ xEl_e) o_callVP_i) (
  xval (s_iload dl_886) (
  xval (s_iceq (z := 5) dl_888 (by decide)) (
  xval (s_iconst (z := 0) dl_891 (by decide)) (
  xval (s_zret dl_892) (
  xval (s_iload dl_893) (
  xval (s_ifne (z := 14) dl_895 (by decide)) (
  xval (s_aload_n (f := 3) dl_898 rfl) (
  xval (s_iconst (z := 0) dl_899 (by decide)) (
  xval (s_laload dl_900) (
  xval (s_lload dl_901) (
  xval (s_lcmp dl_903) (
  xval (s_ifeq (z := 5) dl_904 (by decide)) (
  xval (s_iconst (z := 0) dl_907 (by decide)) (
  xval (s_zret dl_908) (
  xval (s_goto (z := 446) dl_909 (by decide)) (
  xval (s_aload_n (f := 1) dl_912 rfl) (
  xval (s_aload_n (f := 0) dl_913 rfl) (
  xval (s_iload dl_914) (
  xval (s_iconst (z := 1) dl_916 (by decide)) (
  xval (s_iadd dl_917) (
  xval (s_sload dl_918) (
  xval (s_aload_n (f := 0) dl_919 rfl) (
  xval (s_iload dl_920) (
  xval (s_iconst (z := 2) dl_922 (by decide)) (
  xval (s_iadd dl_923) (
  xval (s_sload dl_924) (
  xval (s_aload_n (f := 0) dl_925 rfl) (
  xval (s_iload dl_926) (
  xval (s_iconst (z := 3) dl_928 (by decide)) (
  xval (s_iadd dl_929) (
  xval (s_sload dl_930) (
  xval (s_ifeq (z := 7) dl_931 (by decide)) (
  xval (s_iconst (z := 1) dl_934 (by decide)) (
  xval (s_goto (z := 4) dl_935 (by decide)) (
  xval (s_iconst (z := 0) dl_938 (by decide)) (
  xval (s_aload_n (f := 3) dl_939 rfl) (
  xval (xSd.imp (s_callSW (i := 118) c_L_memberName dl_940 rfl (xtt_good0 tw_546) tw_544 tw_545 tw_0 ⟨by decide, by decide, by decide +kernel⟩ ⟨by decide, by decide, rfl, rfl, by decide, by decide⟩ xEl_e) o_callP_i) (
  xval (s_istore dl_943 (by decide)) (
  xval (s_aload_n (f := 2) dl_945 rfl) (
  xval (s_aload_n (f := 0) dl_946 rfl) (
  xval (s_iload dl_947) (
  xval (s_iconst (z := 1) dl_949 (by decide)) (
  xval (s_iadd dl_950) (
  xval (s_sload dl_951) (
  xval (s_aload_n (f := 0) dl_952 rfl) (
  xval (s_iload dl_953) (
  xval (s_iconst (z := 2) dl_955 (by decide)) (
  xval (s_iadd dl_956) (
  xval (s_sload dl_957) (
  xval (s_aload_n (f := 0) dl_958 rfl) (
  xval (s_iload dl_959) (
  xval (s_iconst (z := 3) dl_961 (by decide)) (
  xval (s_iadd dl_962) (
  xval (s_sload dl_963) (
  xval (s_ifeq (z := 7) dl_964 (by decide)) (
  xval (s_iconst (z := 1) dl_967 (by decide)) (
  xval (s_goto (z := 4) dl_968 (by decide)) (
  xval (s_iconst (z := 0) dl_971 (by decide)) (
  xval (xSd.imp (s_callV (i := 121) c_M_memberName dl_972 rfl (xtt_good0 tw_988) rfl tw_985 tw_986 tw_987 tw_6 ⟨by decide, by decide, by decide +kernel⟩ ⟨by decide, by decide, rfl, rfl, by decide, by decide⟩ xEl_e) o_callVP_i) (
  xval (s_lstore dl_975 (by decide)) (
  xval (s_aload_n (f := 2) dl_977 rfl) (
  xval (xSd.imp (s_callV (i := 79) c_M_thrown dl_978 rfl (xtt_good0 tw_839) rfl tw_836 tw_837 tw_838 tw_6 ⟨by decide, by decide, by decide +kernel⟩ ⟨by decide, by decide, rfl, rfl, by decide, by decide⟩ xEl_e) o_callVP_i) (
  xval (s_iload dl_981) (
  xval (s_iceq (z := 5) dl_983 (by decide)) (
  xval (s_iconst (z := 0) dl_986 (by decide)) (
  xval (s_zret dl_987) (
  xval (s_iload dl_988) (
  xval (s_ifne (z := 14) dl_990 (by decide)) (
  xval (s_aload_n (f := 3) dl_993 rfl) (
  xval (s_iconst (z := 0) dl_994 (by decide)) (
  xval (s_laload dl_995) (
  xval (s_lload dl_996) (
  xval (s_lcmp dl_998) (
  xval (s_ifeq (z := 5) dl_999 (by decide)) (
  xval (s_iconst (z := 0) dl_1002 (by decide)) (
  xval (s_zret dl_1003) (
  xval (s_goto (z := 351) dl_1004 (by decide)) (
  xval (s_aload_n (f := 1) dl_1007 rfl) (
  xval (s_aload_n (f := 0) dl_1008 rfl) (
  xval (s_iload dl_1009) (
  xval (s_iconst (z := 1) dl_1011 (by decide)) (
  xval (s_iadd dl_1012) (
  xval (s_sload dl_1013) (
  xval (s_aload_n (f := 0) dl_1014 rfl) (
  xval (s_iload dl_1015) (
  xval (s_iconst (z := 2) dl_1017 (by decide)) (
  xval (s_iadd dl_1018) (
  xval (s_sload dl_1019) (
  xval (s_i2l dl_1020) (
  xval (s_bipush (z := 32) dl_1021 (by decide)) (
  xval (s_lshl dl_1023) (
  xval (s_aload_n (f := 0) dl_1024 rfl) (
  xval (s_iload dl_1025) (
  xval (s_iconst (z := 3) dl_1027 (by decide)) (
  xval (s_iadd dl_1028) (
  xval (s_sload dl_1029) (
  xval (s_i2l dl_1030) (
  xval (s_ldc2 (i := 71) dl_1031 tw_1065) (
  xval (s_land dl_1034) (
  xval (s_lor dl_1035) (
  xval (s_aload_n (f := 0) dl_1036 rfl) (
  xval (s_iload dl_1037) (
  xval (s_iconst (z := 4) dl_1039 (by decide)) (
  xval (s_iadd dl_1040) (
  xval (s_sload dl_1041) (
  xval (s_i2l dl_1042) (
  xval (s_bipush (z := 32) dl_1043 (by decide)) (
  xval (s_lshl dl_1045) (
  xval (s_aload_n (f := 0) dl_1046 rfl) (
  xval (s_iload dl_1047) (
  xval (s_iconst (z := 5) dl_1049 (by decide)) (
  xval (s_iadd dl_1050) (
  xval (s_sload dl_1051) (
  xval (s_i2l dl_1052) (
  xval (s_ldc2 (i := 71) dl_1053 tw_1065) (
  xval (s_land dl_1056) (
  xval (s_lor dl_1057) (
  xval (s_aload_n (f := 3) dl_1058 rfl) (
  xval (xSd.imp (s_callSW (i := 122) c_L_find dl_1059 rfl (xtt_good0 tw_553) tw_551 tw_552 tw_0 ⟨by decide, by decide, by decide +kernel⟩ ⟨by decide, by decide, rfl, rfl, by decide, by decide⟩ xEl_e) o_callP_i) (
  xval (s_istore dl_1062 (by decide)) (
  xval (s_aload_n (f := 2) dl_1064 rfl) (
  xval (s_aload_n (f := 0) dl_1065 rfl) (
  xval (s_iload dl_1066) (
  xval (s_iconst (z := 1) dl_1068 (by decide)) (
  xval (s_iadd dl_1069) (
  xval (s_sload dl_1070) (
  xval (s_aload_n (f := 0) dl_1071 rfl) (
  xval (s_iload dl_1072) (
  xval (s_iconst (z := 2) dl_1074 (by decide)) (
  xval (s_iadd dl_1075) (
  xval (s_sload dl_1076) (
  xval (s_i2l dl_1077) (
  xval (s_bipush (z := 32) dl_1078 (by decide)) (
  xval (s_lshl dl_1080) (
  xval (s_aload_n (f := 0) dl_1081 rfl) (
  xval (s_iload dl_1082) (
  xval (s_iconst (z := 3) dl_1084 (by decide)) (
  xval (s_iadd dl_1085) (
  xval (s_sload dl_1086) (
  xval (s_i2l dl_1087) (
  xval (s_ldc2 (i := 71) dl_1088 tw_1065) (
  xval (s_land dl_1091) (
  xval (s_lor dl_1092) (
  xval (s_aload_n (f := 0) dl_1093 rfl) (
  xval (s_iload dl_1094) (
  xval (s_iconst (z := 4) dl_1096 (by decide)) (
  xval (s_iadd dl_1097) (
  xval (s_sload dl_1098) (
  xval (s_i2l dl_1099) (
  xval (s_bipush (z := 32) dl_1100 (by decide)) (
  xval (s_lshl dl_1102) (
  xval (s_aload_n (f := 0) dl_1103 rfl) (
  xval (s_iload dl_1104) (
  xval (s_iconst (z := 5) dl_1106 (by decide)) (
  xval (s_iadd dl_1107) (
  xval (s_sload dl_1108) (
  xval (s_i2l dl_1109) (
  xval (s_ldc2 (i := 71) dl_1110 tw_1065) (
  xval (s_land dl_1113) (
  xval (s_lor dl_1114) (
  xval (xSd.imp (s_callV (i := 125) c_M_find dl_1115 rfl (xtt_good0 tw_992) rfl tw_989 tw_990 tw_991 tw_6 ⟨by decide, by decide, by decide +kernel⟩ ⟨by decide, by decide, rfl, rfl, by decide, by decide⟩ xEl_e) o_callVP_i) (
  xval (s_istore dl_1118 (by decide)) (
  xval (s_aload_n (f := 2) dl_1120 rfl) (
  xval (xSd.imp (s_callV (i := 79) c_M_thrown dl_1121 rfl (xtt_good0 tw_839) rfl tw_836 tw_837 tw_838 tw_6 ⟨by decide, by decide, by decide +kernel⟩ ⟨by decide, by decide, rfl, rfl, by decide, by decide⟩ xEl_e) o_callVP_i) (
  xval (s_iload dl_1124) (
  xval (s_iceq (z := 5) dl_1126 (by decide)) (
  xval (s_iconst (z := 0) dl_1129 (by decide)) (
  xval (s_zret dl_1130) (
  xval (s_iload dl_1131) (
  xval (s_ifne (z := 15) dl_1133 (by decide)) (
  xval (s_aload_n (f := 3) dl_1136 rfl) (
  xval (s_iconst (z := 0) dl_1137 (by decide)) (
  xval (s_laload dl_1138) (
  xval (s_iload dl_1139) (
  xval (s_i2l dl_1141) (
  xval (s_lcmp dl_1142) (
  xval (s_ifeq (z := 5) dl_1143 (by decide)) (
  xval (s_iconst (z := 0) dl_1146 (by decide)) (
  xval (s_zret dl_1147) (
  xval (s_goto (z := 207) dl_1148 (by decide)) (
  xval (s_aload_n (f := 1) dl_1151 rfl) (
  xval (s_aload_n (f := 0) dl_1152 rfl) (
  xval (s_iload dl_1153) (
  xval (s_iconst (z := 1) dl_1155 (by decide)) (
  xval (s_iadd dl_1156) (
  xval (s_sload dl_1157) (
  xval (s_aload_n (f := 3) dl_1158 rfl) (
  xval (xSd.imp (s_callSW (i := 126) c_L_write dl_1159 rfl (xtt_good0 tw_580) tw_578 tw_579 tw_0 ⟨by decide, by decide, by decide +kernel⟩ ⟨by decide, by decide, rfl, rfl, by decide, by decide⟩ xEl_e) o_callP_i) (
  xval (s_istore dl_1162 (by decide)) (
  xval (s_aload_n (f := 2) dl_1164 rfl) (
  xval (s_aload_n (f := 0) dl_1165 rfl) (
  xval (s_iload dl_1166) (
  xval (s_iconst (z := 1) dl_1168 (by decide)) (
  xval (s_iadd dl_1169) (
  xval (s_sload dl_1170) (
  xval (xSd.imp (s_callV (i := 129) c_M_write dl_1171 rfl (xtt_good0 tw_996) rfl tw_993 tw_994 tw_995 tw_6 ⟨by decide, by decide, by decide +kernel⟩ ⟨by decide, by decide, rfl, rfl, by decide, by decide⟩ xEl_e) o_callVP_i) (
  xval (s_istore dl_1174 (by decide)) (
  xval (s_aload_n (f := 2) dl_1176 rfl) (
  xval (xSd.imp (s_callV (i := 79) c_M_thrown dl_1177 rfl (xtt_good0 tw_839) rfl tw_836 tw_837 tw_838 tw_6 ⟨by decide, by decide, by decide +kernel⟩ ⟨by decide, by decide, rfl, rfl, by decide, by decide⟩ xEl_e) o_callVP_i) (
  xval (s_iload dl_1180) (
  xval (s_iceq (z := 5) dl_1182 (by decide)) (
  xval (s_iconst (z := 0) dl_1185 (by decide)) (
  xval (s_zret dl_1186) (
  xval (s_iload dl_1187) (
  xval (s_ifne (z := 15) dl_1189 (by decide)) (
  xval (s_aload_n (f := 3) dl_1192 rfl) (
  xval (s_iconst (z := 0) dl_1193 (by decide)) (
  xval (s_laload dl_1194) (
  xval (s_iload dl_1195) (
  xval (s_i2l dl_1197) (
  xval (s_lcmp dl_1198) (
  xval (s_ifeq (z := 5) dl_1199 (by decide)) (
  xval (s_iconst (z := 0) dl_1202 (by decide)) (
  xval (s_zret dl_1203) (
  xval (s_goto (z := 151) dl_1204 (by decide)) (
  xval (s_aload_n (f := 1) dl_1207 rfl) (
  xval (s_aload_n (f := 0) dl_1208 rfl) (
  xval (s_iload dl_1209) (
  xval (s_iconst (z := 1) dl_1211 (by decide)) (
  xval (s_iadd dl_1212) (
  xval (s_sload dl_1213) (
  xval (s_aload_n (f := 3) dl_1214 rfl) (
  xval (xSd.imp (s_callSW (i := 130) c_L_byteAt dl_1215 rfl (xtt_good0 tw_662) tw_660 tw_661 tw_0 ⟨by decide, by decide, by decide +kernel⟩ ⟨by decide, by decide, rfl, rfl, by decide, by decide⟩ xEl_e) o_callP_i) (
  xval (s_istore dl_1218 (by decide)) (
  xval (s_aload_n (f := 2) dl_1220 rfl) (
  xval (s_aload_n (f := 0) dl_1221 rfl) (
  xval (s_iload dl_1222) (
  xval (s_iconst (z := 1) dl_1224 (by decide)) (
  xval (s_iadd dl_1225) (
  xval (s_sload dl_1226) (
  xval (xSd.imp (s_callV (i := 132) c_M_byteAt dl_1227 rfl (xtt_good0 tw_1024) rfl tw_1021 tw_1022 tw_1023 tw_6 ⟨by decide, by decide, by decide +kernel⟩ ⟨by decide, by decide, rfl, rfl, by decide, by decide⟩ xEl_e) o_callVP_i) (
  xval (s_istore dl_1230 (by decide)) (
  xval (s_aload_n (f := 2) dl_1232 rfl) (
  xval (xSd.imp (s_callV (i := 79) c_M_thrown dl_1233 rfl (xtt_good0 tw_839) rfl tw_836 tw_837 tw_838 tw_6 ⟨by decide, by decide, by decide +kernel⟩ ⟨by decide, by decide, rfl, rfl, by decide, by decide⟩ xEl_e) o_callVP_i) (
  xval (s_iload dl_1236) (
  xval (s_iceq (z := 5) dl_1238 (by decide)) (
  xval (s_iconst (z := 0) dl_1241 (by decide)) (
  xval (s_zret dl_1242) (
  xval (s_iload dl_1243) (
  xval (s_ifne (z := 15) dl_1245 (by decide)) (
  xval (s_aload_n (f := 3) dl_1248 rfl) (
  xval (s_iconst (z := 0) dl_1249 (by decide)) (
  xval (s_laload dl_1250) (
  xval (s_iload dl_1251) (
  xval (s_i2l dl_1253) (
  xval (s_lcmp dl_1254) (
  xval (s_ifeq (z := 5) dl_1255 (by decide)) (
  xval (s_iconst (z := 0) dl_1258 (by decide)) (
  xval (s_zret dl_1259) (
  xval (s_goto (z := 95) dl_1260 (by decide)) (
  xval (s_aload_n (f := 1) dl_1263 rfl) (
  xval (s_aload_n (f := 0) dl_1264 rfl) (
  xval (s_iload dl_1265) (
  xval (s_iconst (z := 1) dl_1267 (by decide)) (
  xval (s_iadd dl_1268) (
  xval (s_sload dl_1269) (
  xval (s_aload_n (f := 0) dl_1270 rfl) (
  xval (s_iload dl_1271) (
  xval (s_iconst (z := 2) dl_1273 (by decide)) (
  xval (s_iadd dl_1274) (
  xval (s_sload dl_1275) (
  xval (xSd.imp (s_callSW (i := 133) c_L_poke dl_1276 rfl (xtt_good0 tw_676) tw_674 tw_675 tw_0 ⟨by decide, by decide, by decide +kernel⟩ ⟨by decide, by decide, rfl, rfl, by decide, by decide⟩ xEl_e) o_callP_i) (
  xval (s_istore dl_1279 (by decide)) (
  xval (s_aload_n (f := 2) dl_1281 rfl) (
  xval (s_aload_n (f := 0) dl_1282 rfl) (
  xval (s_iload dl_1283) (
  xval (s_iconst (z := 1) dl_1285 (by decide)) (
  xval (s_iadd dl_1286) (
  xval (s_sload dl_1287) (
  xval (s_aload_n (f := 0) dl_1288 rfl) (
  xval (s_iload dl_1289) (
  xval (s_iconst (z := 2) dl_1291 (by decide)) (
  xval (s_iadd dl_1292) (
  xval (s_sload dl_1293) (
  xval (xSd.imp (s_callV (i := 136) c_M_poke dl_1294 rfl (xtt_good0 tw_1028) rfl tw_1025 tw_1026 tw_1027 tw_6 ⟨by decide, by decide, by decide +kernel⟩ ⟨by decide, by decide, rfl, rfl, by decide, by decide⟩ xEl_e) o_callVP_i) (
  xval (s_aload_n (f := 2) dl_1297 rfl) (
  xval (xSd.imp (s_callV (i := 79) c_M_thrown dl_1298 rfl (xtt_good0 tw_839) rfl tw_836 tw_837 tw_838 tw_6 ⟨by decide, by decide, by decide +kernel⟩ ⟨by decide, by decide, rfl, rfl, by decide, by decide⟩ xEl_e) o_callVP_i) (
  xval (s_iload dl_1301) (
  xval (s_iceq (z := 5) dl_1303 (by decide)) (
  xval (s_iconst (z := 0) dl_1306 (by decide)) (
  xval (s_zret dl_1307) (
  xval (s_goto (z := 47) dl_1308 (by decide)) (
  xval (s_aload_n (f := 1) dl_1311 rfl) (
  xval (s_aload_n (f := 3) dl_1312 rfl) (
  xval (xSd.imp (s_callSW (i := 137) c_L_load dl_1313 rfl (xtt_good0 tw_685) tw_683 tw_684 tw_0 ⟨by decide, by decide, by decide +kernel⟩ ⟨by decide, by decide, rfl, rfl, by decide, by decide⟩ xEl_e) o_callP_i) (
  xval (s_istore dl_1316 (by decide)) (
  xval (s_aload_n (f := 2) dl_1318 rfl) (
  xval (xSd.imp (s_callV (i := 139) c_M_load dl_1319 rfl (xtt_good0 tw_1032) rfl tw_1029 tw_1030 tw_1031 tw_6 ⟨by decide, by decide, by decide +kernel⟩ ⟨by decide, by decide, rfl, rfl, by decide, by decide⟩ xEl_e) o_callVP_i) (
  xval (s_istore dl_1322 (by decide)) (
  xval (s_aload_n (f := 2) dl_1324 rfl) (
  xval (xSd.imp (s_callV (i := 79) c_M_thrown dl_1325 rfl (xtt_good0 tw_839) rfl tw_836 tw_837 tw_838 tw_6 ⟨by decide, by decide, by decide +kernel⟩ ⟨by decide, by decide, rfl, rfl, by decide, by decide⟩ xEl_e) o_callVP_i) (
  xval (s_iload dl_1328) (
  xval (s_iceq (z := 5) dl_1330 (by decide)) (
  xval (s_iconst (z := 0) dl_1333 (by decide)) (
  xval (s_zret dl_1334) (
  xval (s_iload dl_1335) (
  xval (s_ifne (z := 15) dl_1337 (by decide)) (
  xval (s_aload_n (f := 3) dl_1340 rfl) (
  xval (s_iconst (z := 0) dl_1341 (by decide)) (
  xval (s_laload dl_1342) (
  xval (s_iload dl_1343) (
  xval (s_i2l dl_1345) (
  xval (s_lcmp dl_1346) (
  xval (s_ifeq (z := 5) dl_1347 (by decide)) (
  xval (s_iconst (z := 0) dl_1350 (by decide)) (
  xval (s_zret dl_1351) (
  xval (s_goto (z := 3) dl_1352 (by decide)) (
  xval (s_iinc (z := 7) dl_1355 (by decide) (by decide)) (
  xval (s_goto (z := (-1335)) dl_1358 (by decide)) (
  xval (s_iconst (z := 1) dl_1361 (by decide)) (
  xval (s_zret dl_1362) (
  xval_nil))))))))))))))))))))))))))))))))))))))))))))))))))))))))))))))))))))))))))))))))))))))))))))))))))))))))))))))))))))))))))))))))))))))))))))))))))))))))))))))))))))))))))))))))))))))))))))))))))))))))))))))))))))))))))))))))))))))))))))))))))))))))))))))))))))))))))))))))))))))))))))))))))))))))))))))))))))))))))))))))))))))))))))))))))))))))))))))))))))))))))))))))))))))))))))))))))))))))))))))))))))))))))))))))))))))))))))))))))))))))))))))))))))))))))))))))))))))))))))))))))))))))))))))))))))))))))))))))))))))))))))))))))))))))))))))))))))))))))))))))))))))))))))))))))))))))))))))))))))))))))))))))))))))))))))))))))))))))))))))))))))))))))))))))))))))))))))))))))))))))))))))))))))))))))))))))))))))))))))))))))))))))))))))))))))))))))))))))))))))))))))))))))))))))))))))))))))))))))))))))))))))))))))))))))))))))))))))))))))))))))
