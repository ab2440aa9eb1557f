/-! ===== the checks by cells (3) ===== -/
theorem eq_X1_grow_1 : ef_chk ec_Ks ec_TF ec_TR (mt_all 24) ec_X1_grow_1 [] 74 = true := by decide +kernel
theorem eq_X2_pass_1 : ef_chk ec_Ks ec_TF ec_TR (mt_all 32) ec_X2_pass_1 [(3, [(0, [55]), (1, [2, 26]), (2, [98])], []), (24, [(0, [55]), (1, [2, 26]), (2, [98])], [])] 84 = true := by decide +kernel
theorem eq_X11_lasts_0 : ef_chk ec_Ks ec_TF ec_TR (mt_all 127) ec_X11_lasts_0 [(15, [(0, [0])], []), (32, [(0, [0])], [])] 86 = true := by decide +kernel
theorem eq_X4_costOf_0 : ef_chk ec_Ks ec_TF ec_TR (mt_all 55) ec_X4_costOf_0 [(4, [(0, [2, 26]), (1, [])], []), (35, [(0, [2, 26]), (1, [])], []), (41, [(0, [2, 26]), (1, [])], [])] 68 = true := by decide +kernel
theorem eq_X1_take_1 : ef_chk ec_Ks ec_TF ec_TR (mt_all 23) ec_X1_take_1 [(155, [(0, [98]), (1, [2, 26]), (2, [])], [])] 109 = true := by decide +kernel
theorem eq_X2_pass_2 : ef_chk ec_Ks ec_TF ec_TR (mt_all 32) ec_X2_pass_2 [(3, [(0, [55]), (1, [2, 26]), (2, [98])], []), (24, [(0, [55]), (1, [2, 26]), (2, [98])], [])] 84 = true := by decide +kernel
theorem eq_X11_holds_0 : ef_chk ec_Ks ec_TF ec_TR (mt_all 129) ec_X11_holds_0 [(16, [(0, [0]), (1, []), (2, []), (3, []), (4, [])], []), (50, [(0, [0]), (1, []), (2, []), (3, []), (4, [])], [])] 87 = true := by decide +kernel
theorem eq_X11_least_0 : ef_chk ec_Ks ec_TF ec_TR (mt_all 128) ec_X11_least_0 [(33, [(0, [0])], []), (46, [(0, [0])], []), (87, [(0, [0])], []), (130, [(0, [0])], [])] 113 = true := by decide +kernel
theorem eq_X11_dropWithBrace_0 : ef_chk ec_Ks ec_TF ec_TR (mt_all 131) ec_X11_dropWithBrace_0 [] 65 = true := by decide +kernel
theorem eq_X11_way_0 : ef_chk ec_Ks ec_TF ec_TR (mt_all 130) ec_X11_way_0 [(15, [(0, [0])], [])] 61 = true := by decide +kernel
theorem eq_X4_growthNames_0 : ef_chk ec_Ks ec_TF ec_TR (mt_all 54) ec_X4_growthNames_0 [] 55 = true := by decide +kernel
theorem eq_X11_enough_0 : ef_chk ec_Ks ec_TF ec_TR (mt_all 132) ec_X11_enough_0 [(22, [(0, [0])], []), (47, [(0, [0])], [])] 103 = true := by decide +kernel
theorem eq_X11_bears_0 : ef_chk ec_Ks ec_TF ec_TR (mt_all 133) ec_X11_bears_0 [(22, [(0, [0])], []), (72, [(0, [0])], []), (133, [(0, [0])], []), (171, [(0, [0])], [])] 126 = true := by decide +kernel
theorem eq_X4_isLaw_3 : ef_chk ec_Ks ec_TF ec_TR (mt_all 52) ec_X4_isLaw_3 [(28, [(0, [2, 26])], [])] 58 = true := by decide +kernel
theorem eq_X2_see_2 : ef_chk ec_Ks ec_TF ec_TR (mt_all 31) ec_X2_see_2 [] 112 = true := by decide +kernel
theorem eq_X2_workOut_1 : ef_chk ec_Ks ec_TF ec_TR (mt_all 34) ec_X2_workOut_1 [(40, [(0, [55]), (1, [2, 26])], []), (121, [(0, [55]), (1, [2, 26])], []), (220, [(0, [55]), (1, [2, 26])], []), (240, [(0, [55]), (1, [2, 26])], [])] 172 = true := by decide +kernel
theorem eq_X11_knock_0 : ef_chk ec_Ks ec_TF ec_TR (mt_all 134) ec_X11_knock_0 [(29, [(0, [0])], [])] 83 = true := by decide +kernel
theorem eq_X3_add_0 : ef_chk ec_Ks ec_TF ec_TR (mt_all 43) ec_X3_add_0 [(16, [(0, [86]), (1, []), (2, []), (3, []), (4, []), (5, [])], [])] 96 = true := by decide +kernel
theorem eq_X11_measure_0 : ef_chk ec_Ks ec_TF ec_TR (mt_all 135) ec_X11_measure_0 [(27, [(0, [0])], []), (59, [(0, [0])], [])] 78 = true := by decide +kernel
theorem eq_X3_addStrike_0 : ef_chk ec_Ks ec_TF ec_TR (mt_all 44) ec_X3_addStrike_0 [(16, [(0, [86]), (1, [])], [])] 72 = true := by decide +kernel
theorem eq_X11_strike_0 : ef_chk ec_Ks ec_TF ec_TR (mt_all 136) ec_X11_strike_0 [(26, [(0, [0])], [])] 54 = true := by decide +kernel
theorem eq_X11_known_0 : ef_chk ec_Ks ec_TF ec_TR (mt_all 137) ec_X11_known_0 [(16, [(0, [0])], [])] 56 = true := by decide +kernel
theorem eq_X3_knownCount_0 : ef_chk ec_Ks ec_TF ec_TR (mt_all 42) ec_X3_knownCount_0 [] 50 = true := by decide +kernel
theorem eq_X3_findStruck_0 : ef_chk ec_Ks ec_TF ec_TR (mt_all 46) ec_X3_findStruck_0 [(2, [(0, [86])], []), (33, [(0, [86])], []), (78, [(0, [86])], [])] 88 = true := by decide +kernel
theorem eq_X3_pick_0 : ef_chk ec_Ks ec_TF ec_TR (mt_all 45) ec_X3_pick_0 [(13, [(0, [86]), (1, [])], []), (87, [(0, [86]), (1, [])], []), (93, [(0, [86]), (1, [])], [])] 96 = true := by decide +kernel
theorem eq_X4_moreBy_2 : ef_chk ec_Ks ec_TF ec_TR (mt_all 56) ec_X4_moreBy_2 [(5, [(0, [2, 26]), (1, [])], []), (51, [(0, [2, 26]), (1, [])], []), (57, [(0, [2, 26]), (1, [])], [])] 74 = true := by decide +kernel
theorem eq_X1_setCauses_2 : ef_chk ec_Ks ec_TF ec_TR (mt_all 15) ec_X1_setCauses_2 [] 62 = true := by decide +kernel
theorem eq_X1_begin_2 : ef_chk ec_Ks ec_TF ec_TR (mt_all 14) ec_X1_begin_2 [(13, [(0, [97]), (1, [2, 26]), (2, [])], [])] 107 = true := by decide +kernel
theorem eq_X1_leanPart_2 : ef_chk ec_Ks ec_TF ec_TR (mt_all 18) ec_X1_leanPart_2 [] 57 = true := by decide +kernel
theorem eq_X1_hooksPart_2 : ef_chk ec_Ks ec_TF ec_TR (mt_all 19) ec_X1_hooksPart_2 [] 57 = true := by decide +kernel
theorem eq_X1_drop_2 : ef_chk ec_Ks ec_TF ec_TR (mt_all 20) ec_X1_drop_2 [] 52 = true := by decide +kernel
theorem eq_X1_measured_0 : ef_chk ec_Ks ec_TF ec_TR (mt_all 21) ec_X1_measured_0 [] 54 = true := by decide +kernel
theorem eq_X8_record_0 : ef_chk ec_Ks ec_TF ec_TR (mt_all 91) ec_X8_record_0 [(2, [(0, [95]), (1, [])], []), (40, [(0, [95]), (1, [])], [])] 69 = true := by decide +kernel
theorem eq_X1_pull_2 : ef_chk ec_Ks ec_TF ec_TR (mt_all 17) ec_X1_pull_2 [] 74 = true := by decide +kernel
theorem eq_X2_see_3 : ef_chk ec_Ks ec_TF ec_TR (mt_all 31) ec_X2_see_3 [] 112 = true := by decide +kernel
theorem eq_X1_grow_2 : ef_chk ec_Ks ec_TF ec_TR (mt_all 24) ec_X1_grow_2 [] 74 = true := by decide +kernel
theorem eq_X2_pass_3 : ef_chk ec_Ks ec_TF ec_TR (mt_all 32) ec_X2_pass_3 [(3, [(0, [55]), (1, [2, 26]), (2, [97]), (3, [])], []), (24, [(0, [55]), (1, [2, 26]), (2, [97]), (3, [])], [])] 84 = true := by decide +kernel
theorem eq_X1_measured_1 : ef_chk ec_Ks ec_TF ec_TR (mt_all 21) ec_X1_measured_1 [] 54 = true := by decide +kernel
theorem eq_X3_agree_0 : ef_chk ec_Ks ec_TF ec_TR (mt_all 47) ec_X3_agree_0 [(2, [(0, [86]), (1, [97]), (2, [])], []), (84, [(0, [86]), (1, [97]), (2, [])], []), (86, [(0, [86]), (1, [97]), (2, [])], []), (92, [(0, [86]), (1, [97]), (2, [])], [])] 90 = true := by decide +kernel
theorem eq_X8_judge_0 : ef_chk ec_Ks ec_TF ec_TR (mt_all 90) ec_X8_judge_0 [(23, [(0, [95]), (1, [2, 26]), (2, [55]), (3, [86]), (4, [])], []), (79, [(0, [95]), (1, [2, 26]), (2, [55]), (3, [86]), (4, [])], []), (130, [(0, [95]), (1, [2, 26]), (2, [55]), (3, [86]), (4, [])], []), (136, [(0, [95]), (1, [2, 26]), (2, [55]), (3, [86]), (4, [])], [])] 125 = true := by decide +kernel
theorem eq_X11_fits_0 : ef_chk ec_Ks ec_TF ec_TR (mt_all 138) ec_X11_fits_0 [] 61 = true := by decide +kernel
theorem eq_X4_isCause_0 : ef_chk ec_Ks ec_TF ec_TR (mt_all 51) ec_X4_isCause_0 [(22, [(0, [2, 26]), (1, [])], [])] 53 = true := by decide +kernel
theorem eq_X4_weightOf_0 : ef_chk ec_Ks ec_TF ec_TR (mt_all 57) ec_X4_weightOf_0 [] 51 = true := by decide +kernel
theorem eq_X8_weightOfFitting_0 : ef_chk ec_Ks ec_TF ec_TR (mt_all 93) ec_X8_weightOfFitting_0 [(4, [(0, [95]), (1, [2, 26])], [])] 67 = true := by decide +kernel
theorem eq_X11_odds_0 : ef_chk ec_Ks ec_TF ec_TR (mt_all 139) ec_X11_odds_0 [(32, [(0, [0])], [])] 98 = true := by decide +kernel
theorem eq_J6_bitCount_0f7a4_0 : ef_chk ec_Ks ec_TF ec_TR (mt_all 273) ec_J6_bitCount_0f7a4_0 [] 82 = true := by decide +kernel
theorem eq_X8_recorded_0 : ef_chk ec_Ks ec_TF ec_TR (mt_all 92) ec_X8_recorded_0 [(28, [(0, [95]), (1, []), (2, [])], [])] 60 = true := by decide +kernel
theorem eq_X8_heaviestGroup_0 : ef_chk ec_Ks ec_TF ec_TR (mt_all 94) ec_X8_heaviestGroup_0 [(5, [(0, [95]), (1, [2, 26]), (2, [])], []), (20, [(0, [95]), (1, [2, 26]), (2, [])], []), (57, [(0, [95]), (1, [2, 26]), (2, [])], []), (93, [(0, [95]), (1, [2, 26]), (2, [])], [])] 101 = true := by decide +kernel
theorem eq_X11_test_0 : ef_chk ec_Ks ec_TF ec_TR (mt_all 140) ec_X11_test_0 [(17, [(0, [0])], []), (64, [(0, [0])], []), (101, [(0, [0])], [])] 106 = true := by decide +kernel
theorem eq_X11_isAngle_0 : ef_chk ec_Ks ec_TF ec_TR (mt_all 117) ec_X11_isAngle_0 [(14, [(0, [])], [])] 49 = true := by decide +kernel
theorem eq_X1_lowHung_0 : ef_chk ec_Ks ec_TF ec_TR (mt_all 25) ec_X1_lowHung_0 [(17, [(0, [103, 105, 107, 109]), (1, [])], [])] 82 = true := by decide +kernel
theorem eq_X11_low_0 : ef_chk ec_Ks ec_TF ec_TR (mt_all 141) ec_X11_low_0 [(15, [(0, [0])], [])] 56 = true := by decide +kernel
theorem eq_X11_rest_0 : ef_chk ec_Ks ec_TF ec_TR (mt_all 142) ec_X11_rest_0 [(14, [(0, [0])], []), (45, [(0, [0])], [])] 72 = true := by decide +kernel
theorem eq_X1_lowHung_1 : ef_chk ec_Ks ec_TF ec_TR (mt_all 25) ec_X1_lowHung_1 [(17, [(0, [103, 105, 107, 109])], [])] 82 = true := by decide +kernel
theorem eq_X11_shuts_0 : ef_chk ec_Ks ec_TF ec_TR (mt_all 143) ec_X11_shuts_0 [(14, [(0, [0])], [])] 80 = true := by decide +kernel
theorem eq_X1_aboveHung_0 : ef_chk ec_Ks ec_TF ec_TR (mt_all 26) ec_X1_aboveHung_0 [(19, [(0, [103, 105, 107, 109]), (1, [])], [])] 91 = true := by decide +kernel
theorem eq_X11_above_0 : ef_chk ec_Ks ec_TF ec_TR (mt_all 144) ec_X11_above_0 [(15, [(0, [0])], [])] 56 = true := by decide +kernel
theorem eq_X11_opens_0 : ef_chk ec_Ks ec_TF ec_TR (mt_all 145) ec_X11_opens_0 [(13, [(0, [0])], [])] 66 = true := by decide +kernel
theorem eq_X1_lowHung_2 : ef_chk ec_Ks ec_TF ec_TR (mt_all 25) ec_X1_lowHung_2 [(17, [(0, [98])], [])] 82 = true := by decide +kernel
theorem eq_X1_lowHung_3 : ef_chk ec_Ks ec_TF ec_TR (mt_all 25) ec_X1_lowHung_3 [(17, [(0, [98]), (1, [])], [])] 82 = true := by decide +kernel
theorem eq_X1_aboveHung_1 : ef_chk ec_Ks ec_TF ec_TR (mt_all 26) ec_X1_aboveHung_1 [(19, [(0, [98]), (1, [])], [])] 91 = true := by decide +kernel
theorem eq_X1_standsWith_0 : ef_chk ec_Ks ec_TF ec_TR (mt_all 27) ec_X1_standsWith_0 [(13, [(0, [98]), (1, [])], []), (43, [(0, [98]), (1, [])], [])] 74 = true := by decide +kernel
theorem eq_X1_standsWith_1 : ef_chk ec_Ks ec_TF ec_TR (mt_all 27) ec_X1_standsWith_1 [(13, [(0, [98]), (1, []), (2, []), (3, [])], []), (43, [(0, [98]), (1, []), (2, []), (3, [])], [])] 74 = true := by decide +kernel
theorem eq_X11_stand_0 : ef_chk ec_Ks ec_TF ec_TR (mt_all 146) ec_X11_stand_0 [(24, [(0, [0])], []), (43, [(0, [0])], []), (54, [(0, [0])], []), (114, [(0, [0])], []), (136, [(0, [0])], [])] 112 = true := by decide +kernel
theorem eq_X1_isLatched_1 : ef_chk ec_Ks ec_TF ec_TR (mt_all 22) ec_X1_isLatched_1 [(32, [(0, [98])], [])] 58 = true := by decide +kernel
theorem eq_X11_unlatchedWeeks_0 : ef_chk ec_Ks ec_TF ec_TR (mt_all 148) ec_X11_unlatchedWeeks_0 [(29, [(0, [0]), (1, []), (2, []), (3, [])], []), (70, [(0, [0]), (1, []), (2, []), (3, [])], []), (106, [(0, [0]), (1, []), (2, []), (3, [])], [])] 99 = true := by decide +kernel
theorem eq_X9_tell_0 : ef_chk ec_Ks ec_TF ec_TR (mt_all 96) ec_X9_tell_0 [(30, [(0, [99]), (1, []), (2, [])], [])] 59 = true := by decide +kernel
theorem eq_X9_sumOf_0 : ef_chk ec_Ks ec_TF ec_TR (mt_all 98) ec_X9_sumOf_0 [(17, [(0, [99]), (1, []), (2, [])], []), (54, [(0, [99]), (1, []), (2, [])], [])] 101 = true := by decide +kernel
theorem eq_X9_choose_0 : ef_chk ec_Ks ec_TF ec_TR (mt_all 97) ec_X9_choose_0 [(4, [(0, [99])], []), (26, [(0, [99])], []), (62, [(0, [99])], []), (71, [(0, [99])], []), (97, [(0, [99])], [])] 98 = true := by decide +kernel
theorem eq_X9_gateAt_0 : ef_chk ec_Ks ec_TF ec_TR (mt_all 99) ec_X9_gateAt_0 [(18, [(0, [99])], [])] 52 = true := by decide +kernel
theorem eq_X11_first_0 : ef_chk ec_Ks ec_TF ec_TR (mt_all 147) ec_X11_first_0 [(36, [(0, [0])], []), (40, [(0, [0])], []), (54, [(0, [0])], [])] 106 = true := by decide +kernel
theorem eq_X11_wind_0 : ef_chk ec_Ks ec_TF ec_TR (mt_all 149) ec_X11_wind_0 [(15, [(0, [0])], []), (35, [(0, [0])], []), (68, [(0, [0])], []), (80, [(0, [0])], []), (112, [(0, [0])], []), (209, [(0, [0])], [])] 150 = true := by decide +kernel
theorem eq_X1_copy_3 : ef_chk ec_Ks ec_TF ec_TR (mt_all 16) ec_X1_copy_3 [] 109 = true := by decide +kernel
theorem eq_X11_keep_0 : ef_chk ec_Ks ec_TF ec_TR (mt_all 150) ec_X11_keep_0 [(2, [(0, [0])], [])] 63 = true := by decide +kernel
theorem eq_X1_copy_4 : ef_chk ec_Ks ec_TF ec_TR (mt_all 16) ec_X1_copy_4 [] 109 = true := by decide +kernel
theorem eq_X11_back_0 : ef_chk ec_Ks ec_TF ec_TR (mt_all 151) ec_X11_back_0 [(12, [(0, [0])], [])] 72 = true := by decide +kernel
theorem eq_X4_costOf_1 : ef_chk ec_Ks ec_TF ec_TR (mt_all 55) ec_X4_costOf_1 [(4, [(0, [2, 26])], []), (35, [(0, [2, 26])], []), (41, [(0, [2, 26])], [])] 68 = true := by decide +kernel
theorem eq_X11_costOfAllDone_0 : ef_chk ec_Ks ec_TF ec_TR (mt_all 153) ec_X11_costOfAllDone_0 [(4, [(0, [0])], []), (49, [(0, [0])], [])] 69 = true := by decide +kernel
theorem eq_X11_count_0 : ef_chk ec_Ks ec_TF ec_TR (mt_all 152) ec_X11_count_0 [] 78 = true := by decide +kernel
