/-! ===== the checks by cells (2) ===== -/
theorem eq_X5_readHas_1 : ef_chk ec_Ks ec_TF ec_TR (mt_all 70) ec_X5_readHas_1 [] 93 = true := by decide +kernel
theorem eq_X5_readPart_1 : ef_chk ec_Ks ec_TF ec_TR (mt_all 68) ec_X5_readPart_1 [(32, [(0, [50]), (1, [18, 20, 22, 24])], [(50, 2, [2])]), (247, [(0, [50]), (1, [18, 20, 22, 24])], [(50, 2, [2])]), (284, [(0, [50]), (1, [18, 20, 22, 24])], [(50, 2, [2])])] 168 = true := by decide +kernel
theorem eq_X5_readGate_1 : ef_chk ec_Ks ec_TF ec_TR (mt_all 67) ec_X5_readGate_1 [(17, [(0, [50])], [(50, 2, [2])]), (102, [(0, [50]), (2, [18, 20, 22, 24])], [(50, 2, [2])]), (141, [(0, [50]), (2, [18, 20, 22, 24])], [(50, 2, [2])])] 118 = true := by decide +kernel
theorem eq_X4_isLaw_1 : ef_chk ec_Ks ec_TF ec_TR (mt_all 52) ec_X4_isLaw_1 [(28, [(0, [2]), (1, [])], [])] 58 = true := by decide +kernel
theorem eq_X0_signOf_1 : ef_chk ec_Ks ec_TF ec_TR (mt_all 7) ec_X0_signOf_1 [] 65 = true := by decide +kernel
theorem eq_X0_latestHeld_1 : ef_chk ec_Ks ec_TF ec_TR (mt_all 11) ec_X0_latestHeld_1 [(33, [(0, [53])], [(50, 2, [2]), (53, 7, [2])])] 59 = true := by decide +kernel
theorem eq_X0_rankOf_2 : ef_chk ec_Ks ec_TF ec_TR (mt_all 8) ec_X0_rankOf_2 [] 56 = true := by decide +kernel
theorem eq_X4_addCode_2 : ef_chk ec_Ks ec_TF ec_TR (mt_all 58) ec_X4_addCode_2 [(36, [(0, [2])], [])] 60 = true := by decide +kernel
theorem eq_X0_release_1 : ef_chk ec_Ks ec_TF ec_TR (mt_all 12) ec_X0_release_1 [(0, [(0, [53])], [(50, 2, [2]), (53, 7, [2])]), (42, [(0, [53])], [(50, 2, [2]), (53, 7, [2])])] 61 = true := by decide +kernel
theorem eq_X0_hold_2 : ef_chk ec_Ks ec_TF ec_TR (mt_all 10) ec_X0_hold_2 [(39, [(0, [53])], [(50, 2, [2]), (53, 7, [2])])] 62 = true := by decide +kernel
theorem eq_X0_openParen_1 : ef_chk ec_Ks ec_TF ec_TR (mt_all 3) ec_X0_openParen_1 [] 60 = true := by decide +kernel
theorem eq_X0_hold_3 : ef_chk ec_Ks ec_TF ec_TR (mt_all 10) ec_X0_hold_3 [(39, [(0, [53]), (1, [])], [(50, 2, [2]), (53, 7, [2])])] 62 = true := by decide +kernel
theorem eq_X0_holdKnot_2 : ef_chk ec_Ks ec_TF ec_TR (mt_all 9) ec_X0_holdKnot_2 [] 59 = true := by decide +kernel
theorem eq_X0_nameOf_1 : ef_chk ec_Ks ec_TF ec_TR (mt_all 5) ec_X0_nameOf_1 [] 64 = true := by decide +kernel
theorem eq_X0_valueKnot_1 : ef_chk ec_Ks ec_TF ec_TR (mt_all 4) ec_X0_valueKnot_1 [] 78 = true := by decide +kernel
theorem eq_X4_addCode_3 : ef_chk ec_Ks ec_TF ec_TR (mt_all 58) ec_X4_addCode_3 [(36, [(0, [2]), (1, [])], [])] 60 = true := by decide +kernel
theorem eq_X0_readValue_1 : ef_chk ec_Ks ec_TF ec_TR (mt_all 2) ec_X0_readValue_1 [(90, [(0, [53])], [(50, 2, [2]), (53, 7, [2])]), (92, [(0, [53])], [(50, 2, [2]), (53, 7, [2])])] 101 = true := by decide +kernel
theorem eq_X0_rankOf_3 : ef_chk ec_Ks ec_TF ec_TR (mt_all 8) ec_X0_rankOf_3 [] 56 = true := by decide +kernel
theorem eq_X0_holdKnot_3 : ef_chk ec_Ks ec_TF ec_TR (mt_all 9) ec_X0_holdKnot_3 [] 59 = true := by decide +kernel
theorem eq_X0_readJoint_1 : ef_chk ec_Ks ec_TF ec_TR (mt_all 6) ec_X0_readJoint_1 [(50, [(0, [53])], [(50, 2, [2]), (53, 7, [2])]), (106, [(0, [53])], [(50, 2, [2]), (53, 7, [2])])] 117 = true := by decide +kernel
theorem eq_X0_readInto_1 : ef_chk ec_Ks ec_TF ec_TR (mt_all 1) ec_X0_readInto_1 [(32, [(0, [53]), (1, [2])], [(50, 2, [2]), (53, 7, [2])]), (68, [(0, [53]), (1, [2])], [(50, 2, [2]), (53, 7, [2])])] 98 = true := by decide +kernel
theorem eq_X5_fail_3 : ef_chk ec_Ks ec_TF ec_TR (mt_all 61) ec_X5_fail_3 [(23, [(0, [50]), (1, [])], [(50, 2, [2]), (53, 7, [2])])] 53 = true := by decide +kernel
theorem eq_X5_readLaw_1 : ef_chk ec_Ks ec_TF ec_TR (mt_all 66) ec_X5_readLaw_1 [(57, [(0, [50])], [(50, 2, [2])]), (101, [(0, [50])], [(50, 2, [2]), (53, 7, [2])])] 117 = true := by decide +kernel
theorem eq_X5_readGround_1 : ef_chk ec_Ks ec_TF ec_TR (mt_all 65) ec_X5_readGround_1 [(28, [(0, [50])], [(50, 2, [2])])] 71 = true := by decide +kernel
theorem eq_X5_readText_1 : ef_chk ec_Ks ec_TF ec_TR (mt_all 60) ec_X5_readText_1 [(37, [(0, [50]), (1, [2]), (2, [])], [(50, 2, [2])]), (153, [(0, [50]), (1, [2]), (2, [])], [(50, 2, [2])])] 111 = true := by decide +kernel
theorem eq_X4_moreBy_1 : ef_chk ec_Ks ec_TF ec_TR (mt_all 56) ec_X4_moreBy_1 [(5, [(0, [2]), (1, [])], []), (51, [(0, [2]), (1, [])], []), (57, [(0, [2]), (1, [])], [])] 74 = true := by decide +kernel
theorem eq_X1_setCauses_1 : ef_chk ec_Ks ec_TF ec_TR (mt_all 15) ec_X1_setCauses_1 [] 62 = true := by decide +kernel
theorem eq_X1_begin_1 : ef_chk ec_Ks ec_TF ec_TR (mt_all 14) ec_X1_begin_1 [(13, [(0, [103, 105, 107, 109]), (1, [2]), (2, [])], [])] 107 = true := by decide +kernel
theorem eq_X11_takeSpare_1 : ef_chk ec_Ks ec_TF ec_TR (mt_all 110) ec_X11_takeSpare_1 [(27, [(0, [0]), (1, [26])], [(0, 2, [2]), (0, 3, [26])])] 81 = true := by decide +kernel
theorem eq_X11_text_1 : ef_chk ec_Ks ec_TF ec_TR (mt_all 109) ec_X11_text_1 [(12, [(0, [0])], [(0, 2, [26]), (0, 3, [2])]), (42, [(0, [0])], [(0, 2, [2, 26]), (0, 3, [2, 26]), (50, 2, [2])])] 65 = true := by decide +kernel
theorem eq_X11_fault_0 : ef_chk ec_Ks ec_TF ec_TR (mt_all 111) ec_X11_fault_0 [] 55 = true := by decide +kernel
theorem eq_X11_placeOf_8 : ef_chk ec_Ks ec_TF ec_TR (mt_all 113) ec_X11_placeOf_8 [(2, [(0, []), (1, [9, 33])], []), (28, [(0, []), (1, [9, 33])], [])] 60 = true := by decide +kernel
theorem eq_X11_placeOf_9 : ef_chk ec_Ks ec_TF ec_TR (mt_all 113) ec_X11_placeOf_9 [(2, [(0, []), (1, [10, 34])], []), (28, [(0, []), (1, [10, 34])], [])] 60 = true := by decide +kernel
theorem eq_X11_placeOf_10 : ef_chk ec_Ks ec_TF ec_TR (mt_all 113) ec_X11_placeOf_10 [(2, [(0, []), (1, [14, 38])], []), (28, [(0, []), (1, [14, 38])], [])] 60 = true := by decide +kernel
theorem eq_X11_named_0 : ef_chk ec_Ks ec_TF ec_TR (mt_all 112) ec_X11_named_0 [] 77 = true := by decide +kernel
theorem eq_X4_isWork_0 : ef_chk ec_Ks ec_TF ec_TR (mt_all 50) ec_X4_isWork_0 [(22, [(0, [2, 26]), (1, [])], [])] 53 = true := by decide +kernel
theorem eq_X11_works_0 : ef_chk ec_Ks ec_TF ec_TR (mt_all 119) ec_X11_works_0 [(20, [(0, [0])], [])] 75 = true := by decide +kernel
theorem eq_X11_isWeek_0 : ef_chk ec_Ks ec_TF ec_TR (mt_all 118) ec_X11_isWeek_0 [(15, [(0, [])], [])] 49 = true := by decide +kernel
theorem eq_X4_firmIn_0 : ef_chk ec_Ks ec_TF ec_TR (mt_all 53) ec_X4_firmIn_0 [] 55 = true := by decide +kernel
theorem eq_X11_firm_0 : ef_chk ec_Ks ec_TF ec_TR (mt_all 120) ec_X11_firm_0 [] 50 = true := by decide +kernel
theorem eq_X11_isAhead_0 : ef_chk ec_Ks ec_TF ec_TR (mt_all 116) ec_X11_isAhead_0 [(15, [(0, [])], [])] 49 = true := by decide +kernel
theorem eq_X7_span_0 : ef_chk ec_Ks ec_TF ec_TR (mt_all 88) ec_X7_span_0 [] 46 = true := by decide +kernel
theorem eq_X1_pull_0 : ef_chk ec_Ks ec_TF ec_TR (mt_all 17) ec_X1_pull_0 [] 74 = true := by decide +kernel
theorem eq_X2_put_0 : ef_chk ec_Ks ec_TF ec_TR (mt_all 30) ec_X2_put_0 [(40, [(0, [55])], [])] 66 = true := by decide +kernel
theorem eq_X1_leanPart_0 : ef_chk ec_Ks ec_TF ec_TR (mt_all 18) ec_X1_leanPart_0 [] 57 = true := by decide +kernel
theorem eq_X1_hooksPart_0 : ef_chk ec_Ks ec_TF ec_TR (mt_all 19) ec_X1_hooksPart_0 [] 57 = true := by decide +kernel
theorem eq_X1_drop_0 : ef_chk ec_Ks ec_TF ec_TR (mt_all 20) ec_X1_drop_0 [] 52 = true := by decide +kernel
theorem eq_X2_see_0 : ef_chk ec_Ks ec_TF ec_TR (mt_all 31) ec_X2_see_0 [] 112 = true := by decide +kernel
theorem eq_X4_isLaw_2 : ef_chk ec_Ks ec_TF ec_TR (mt_all 52) ec_X4_isLaw_2 [(28, [(0, [2, 26]), (1, [])], [])] 58 = true := by decide +kernel
theorem eq_X2_valueOf_0 : ef_chk ec_Ks ec_TF ec_TR (mt_all 35) ec_X2_valueOf_0 [(25, [(0, [55]), (1, [])], [])] 57 = true := by decide +kernel
theorem eq_X2_times_0 : ef_chk ec_Ks ec_TF ec_TR (mt_all 38) ec_X2_times_0 [] 66 = true := by decide +kernel
theorem eq_X2_bounded_0 : ef_chk ec_Ks ec_TF ec_TR (mt_all 37) ec_X2_bounded_0 [] 55 = true := by decide +kernel
theorem eq_X2_by_0 : ef_chk ec_Ks ec_TF ec_TR (mt_all 39) ec_X2_by_0 [] 59 = true := by decide +kernel
theorem eq_X2_join_0 : ef_chk ec_Ks ec_TF ec_TR (mt_all 36) ec_X2_join_0 [(77, [(0, [55]), (1, [])], []), (100, [(0, [55]), (1, [])], [])] 136 = true := by decide +kernel
theorem eq_X2_workOut_0 : ef_chk ec_Ks ec_TF ec_TR (mt_all 34) ec_X2_workOut_0 [(40, [(0, [55]), (1, [2, 26]), (2, [])], []), (121, [(0, [55]), (1, [2, 26]), (2, [])], []), (220, [(0, [55]), (1, [2, 26]), (2, [])], []), (240, [(0, [55]), (1, [2, 26]), (2, [])], [])] 172 = true := by decide +kernel
theorem eq_X2_refresh_0 : ef_chk ec_Ks ec_TF ec_TR (mt_all 33) ec_X2_refresh_0 [(22, [(0, [55]), (1, [2, 26]), (2, [])], []), (78, [(0, [55]), (1, [2, 26]), (2, [])], [])] 83 = true := by decide +kernel
theorem eq_X1_grow_0 : ef_chk ec_Ks ec_TF ec_TR (mt_all 24) ec_X1_grow_0 [] 74 = true := by decide +kernel
theorem eq_X2_pass_0 : ef_chk ec_Ks ec_TF ec_TR (mt_all 32) ec_X2_pass_0 [(3, [(0, [55]), (1, [2, 26]), (2, [103, 105, 107, 109])], []), (24, [(0, [55]), (1, [2, 26]), (2, [103, 105, 107, 109])], [])] 84 = true := by decide +kernel
theorem eq_X11_weeks_0 : ef_chk ec_Ks ec_TF ec_TR (mt_all 121) ec_X11_weeks_0 [(19, [(0, [0])], []), (23, [(0, [0])], []), (71, [(0, [0])], [])] 86 = true := by decide +kernel
theorem eq_X11_isGate_0 : ef_chk ec_Ks ec_TF ec_TR (mt_all 114) ec_X11_isGate_0 [(28, [(0, [0]), (1, [])], [])] 56 = true := by decide +kernel
theorem eq_X11_sags_0 : ef_chk ec_Ks ec_TF ec_TR (mt_all 122) ec_X11_sags_0 [] 79 = true := by decide +kernel
theorem eq_X1_isLatched_0 : ef_chk ec_Ks ec_TF ec_TR (mt_all 22) ec_X1_isLatched_0 [(32, [(0, [103, 105, 107, 109])], [])] 58 = true := by decide +kernel
theorem eq_X11_latched_0 : ef_chk ec_Ks ec_TF ec_TR (mt_all 123) ec_X11_latched_0 [] 56 = true := by decide +kernel
theorem eq_X11_gives_0 : ef_chk ec_Ks ec_TF ec_TR (mt_all 124) ec_X11_gives_0 [] 74 = true := by decide +kernel
theorem eq_X10_dropEarliest_0 : ef_chk ec_Ks ec_TF ec_TR (mt_all 103) ec_X10_dropEarliest_0 [(9, [(0, [63]), (1, [66, 67, 68, 69, 70, 71, 72, 73, 74, 75, 76, 77, 78, 79, 80, 81, 82, 83, 84, 85])], [])] 81 = true := by decide +kernel
theorem eq_X1_copy_0 : ef_chk ec_Ks ec_TF ec_TR (mt_all 16) ec_X1_copy_0 [] 109 = true := by decide +kernel
theorem eq_X10_push_0 : ef_chk ec_Ks ec_TF ec_TR (mt_all 102) ec_X10_push_0 [(13, [(0, [63]), (1, []), (2, [103, 105, 107, 109])], []), (62, [(0, [63]), (1, []), (2, [103, 105, 107, 109])], [])] 73 = true := by decide +kernel
theorem eq_X1_take_0 : ef_chk ec_Ks ec_TF ec_TR (mt_all 23) ec_X1_take_0 [(155, [(0, [103, 105, 107, 109]), (1, [2, 26]), (2, [])], [])] 109 = true := by decide +kernel
theorem eq_X11_work_0 : ef_chk ec_Ks ec_TF ec_TR (mt_all 125) ec_X11_work_0 [(19, [(0, [0])], [])] 77 = true := by decide +kernel
theorem eq_X10_latestGate_0 : ef_chk ec_Ks ec_TF ec_TR (mt_all 104) ec_X10_latestGate_0 [(30, [(0, [63])], [])] 57 = true := by decide +kernel
theorem eq_X1_copy_1 : ef_chk ec_Ks ec_TF ec_TR (mt_all 16) ec_X1_copy_1 [] 109 = true := by decide +kernel
theorem eq_X10_popInto_0 : ef_chk ec_Ks ec_TF ec_TR (mt_all 105) ec_X10_popInto_0 [(39, [(0, [63]), (1, [103, 105, 107, 109])], [])] 61 = true := by decide +kernel
theorem eq_X11_undo_0 : ef_chk ec_Ks ec_TF ec_TR (mt_all 126) ec_X11_undo_0 [(41, [(0, [0])], [])] 65 = true := by decide +kernel
theorem eq_X11_isBound_0 : ef_chk ec_Ks ec_TF ec_TR (mt_all 115) ec_X11_isBound_0 [(16, [(0, [])], [])] 50 = true := by decide +kernel
theorem eq_X1_copy_2 : ef_chk ec_Ks ec_TF ec_TR (mt_all 16) ec_X1_copy_2 [] 109 = true := by decide +kernel
theorem eq_X1_pull_1 : ef_chk ec_Ks ec_TF ec_TR (mt_all 17) ec_X1_pull_1 [] 74 = true := by decide +kernel
theorem eq_X1_leanPart_1 : ef_chk ec_Ks ec_TF ec_TR (mt_all 18) ec_X1_leanPart_1 [] 57 = true := by decide +kernel
theorem eq_X1_hooksPart_1 : ef_chk ec_Ks ec_TF ec_TR (mt_all 19) ec_X1_hooksPart_1 [] 57 = true := by decide +kernel
theorem eq_X1_drop_1 : ef_chk ec_Ks ec_TF ec_TR (mt_all 20) ec_X1_drop_1 [] 52 = true := by decide +kernel
theorem eq_X2_see_1 : ef_chk ec_Ks ec_TF ec_TR (mt_all 31) ec_X2_see_1 [] 112 = true := by decide +kernel
