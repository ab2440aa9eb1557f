/-! ===== the checks by cells (1) ===== -/
theorem eq_X7_setHeight_0 : ef_chk ec_Ks ec_TF ec_TR (mt_all 87) ec_X7_setHeight_0 [] 52 = true := by decide +kernel
theorem eq_X7_clear_0 : ef_chk ec_Ks ec_TF ec_TR (mt_all 86) ec_X7_clear_0 [(83, [(0, [42, 44, 46, 48])], [])] 97 = true := by decide +kernel
theorem eq_X4_clear_0 : ef_chk ec_Ks ec_TF ec_TR (mt_all 49) ec_X4_clear_0 [(2, [(0, [26])], []), (24, [(0, [26])], []), (58, [(0, [26])], [])] 102 = true := by decide +kernel
theorem eq_X6_letterBits_0 : ef_chk ec_Ks ec_TF ec_TR (mt_all 76) ec_X6_letterBits_0 [] 57 = true := by decide +kernel
theorem eq_X6_readLetters_0 : ef_chk ec_Ks ec_TF ec_TR (mt_all 79) ec_X6_readLetters_0 [(2, [(0, [51])], []), (79, [(0, [51])], []), (96, [(0, [51])], []), (133, [(0, [51])], []), (139, [(0, [51])], [])] 114 = true := by decide +kernel
theorem eq_X6_readDigits_0 : ef_chk ec_Ks ec_TF ec_TR (mt_all 80) ec_X6_readDigits_0 [(0, [(0, [51])], []), (81, [(0, [51])], [])] 86 = true := by decide +kernel
theorem eq_X6_takes_0 : ef_chk ec_Ks ec_TF ec_TR (mt_all 82) ec_X6_takes_0 [(36, [(0, [51])], [])] 62 = true := by decide +kernel
theorem eq_X6_readSign_0 : ef_chk ec_Ks ec_TF ec_TR (mt_all 81) ec_X6_readSign_0 [(271, [(0, [51])], [])] 113 = true := by decide +kernel
theorem eq_X6_step_0 : ef_chk ec_Ks ec_TF ec_TR (mt_all 78) ec_X6_step_0 [(0, [(0, [51])], []), (39, [(0, [51])], []), (52, [(0, [51])], []), (119, [(0, [51])], []), (154, [(0, [51])], []), (167, [(0, [51])], [])] 124 = true := by decide +kernel
theorem eq_X6_begin_0 : ef_chk ec_Ks ec_TF ec_TR (mt_all 77) ec_X6_begin_0 [] 55 = true := by decide +kernel
theorem eq_X11_placeOf_0 : ef_chk ec_Ks ec_TF ec_TR (mt_all 113) ec_X11_placeOf_0 [(2, [(0, []), (1, [38]), (2, [])], []), (28, [(0, []), (1, [38]), (2, [])], [])] 60 = true := by decide +kernel
theorem eq_X5_fail_0 : ef_chk ec_Ks ec_TF ec_TR (mt_all 61) ec_X5_fail_0 [(23, [(0, [50])], [(50, 2, [26])])] 53 = true := by decide +kernel
theorem eq_X5_readNewName_0 : ef_chk ec_Ks ec_TF ec_TR (mt_all 64) ec_X5_readNewName_0 [(18, [(0, [50]), (1, [38]), (2, [])], [(50, 2, [26])])] 71 = true := by decide +kernel
theorem eq_X5_readNumber_0 : ef_chk ec_Ks ec_TF ec_TR (mt_all 63) ec_X5_readNumber_0 [(39, [(0, [50])], [(50, 2, [26])]), (52, [(0, [50])], [(50, 2, [26])]), (70, [(0, [50])], [(50, 2, [26])]), (112, [(0, [50])], [(50, 2, [26])])] 102 = true := by decide +kernel
theorem eq_X6_isWordFrom_0 : ef_chk ec_Ks ec_TF ec_TR (mt_all 84) ec_X6_isWordFrom_0 [(28, [(0, [51])], [])] 56 = true := by decide +kernel
theorem eq_X5_readCause_0 : ef_chk ec_Ks ec_TF ec_TR (mt_all 74) ec_X5_readCause_0 [(18, [(0, [50])], [(50, 2, [26])]), (89, [(0, [50])], [(50, 2, [26])])] 120 = true := by decide +kernel
theorem eq_X5_readSemicolon_0 : ef_chk ec_Ks ec_TF ec_TR (mt_all 62) ec_X5_readSemicolon_0 [(19, [(0, [50])], [(50, 2, [26])])] 57 = true := by decide +kernel
theorem eq_X11_placeOf_1 : ef_chk ec_Ks ec_TF ec_TR (mt_all 113) ec_X11_placeOf_1 [(2, [(0, []), (1, [34]), (2, [])], []), (28, [(0, []), (1, [34]), (2, [])], [])] 60 = true := by decide +kernel
theorem eq_X5_readNewName_1 : ef_chk ec_Ks ec_TF ec_TR (mt_all 64) ec_X5_readNewName_1 [(18, [(0, [50]), (1, [34]), (2, [])], [(50, 2, [26])])] 71 = true := by decide +kernel
theorem eq_X5_kindOf_0 : ef_chk ec_Ks ec_TF ec_TR (mt_all 72) ec_X5_kindOf_0 [] 58 = true := by decide +kernel
theorem eq_X5_mostOf_0 : ef_chk ec_Ks ec_TF ec_TR (mt_all 73) ec_X5_mostOf_0 [] 52 = true := by decide +kernel
theorem eq_X5_readNumber_1 : ef_chk ec_Ks ec_TF ec_TR (mt_all 63) ec_X5_readNumber_1 [(39, [(0, [50])], [(50, 2, [26])]), (52, [(0, [50])], [(50, 2, [26])]), (70, [(0, [50])], [(50, 2, [26])]), (112, [(0, [50])], [(50, 2, [26])])] 102 = true := by decide +kernel
theorem eq_X5_readWork_0 : ef_chk ec_Ks ec_TF ec_TR (mt_all 71) ec_X5_readWork_0 [(18, [(0, [50])], [(50, 2, [26])]), (101, [(0, [50])], [(50, 2, [26])])] 132 = true := by decide +kernel
theorem eq_X11_placeOf_2 : ef_chk ec_Ks ec_TF ec_TR (mt_all 113) ec_X11_placeOf_2 [(2, [(0, []), (1, [33]), (2, [])], []), (28, [(0, []), (1, [33]), (2, [])], [])] 60 = true := by decide +kernel
theorem eq_X5_readNewName_2 : ef_chk ec_Ks ec_TF ec_TR (mt_all 64) ec_X5_readNewName_2 [(18, [(0, [50]), (1, [33]), (2, [])], [(50, 2, [26])])] 71 = true := by decide +kernel
theorem eq_X5_readBrace_0 : ef_chk ec_Ks ec_TF ec_TR (mt_all 69) ec_X5_readBrace_0 [] 65 = true := by decide +kernel
theorem eq_X11_placeOf_3 : ef_chk ec_Ks ec_TF ec_TR (mt_all 113) ec_X11_placeOf_3 [(2, [], []), (28, [], [])] 60 = true := by decide +kernel
theorem eq_X5_readHas_0 : ef_chk ec_Ks ec_TF ec_TR (mt_all 70) ec_X5_readHas_0 [] 93 = true := by decide +kernel
theorem eq_X5_readPart_0 : ef_chk ec_Ks ec_TF ec_TR (mt_all 68) ec_X5_readPart_0 [(32, [(0, [50]), (1, [42, 44, 46, 48])], [(50, 2, [26])]), (247, [(0, [50]), (1, [42, 44, 46, 48])], [(50, 2, [26])]), (284, [(0, [50]), (1, [42, 44, 46, 48])], [(50, 2, [26])])] 168 = true := by decide +kernel
theorem eq_X5_readGate_0 : ef_chk ec_Ks ec_TF ec_TR (mt_all 67) ec_X5_readGate_0 [(17, [(0, [50])], [(50, 2, [26])]), (102, [(0, [50]), (2, [42, 44, 46, 48])], [(50, 2, [26])]), (141, [(0, [50]), (2, [42, 44, 46, 48])], [(50, 2, [26])])] 118 = true := by decide +kernel
theorem eq_X4_isLaw_0 : ef_chk ec_Ks ec_TF ec_TR (mt_all 52) ec_X4_isLaw_0 [(28, [(0, [26]), (1, [])], [])] 58 = true := by decide +kernel
theorem eq_X6_isWord_0 : ef_chk ec_Ks ec_TF ec_TR (mt_all 83) ec_X6_isWord_0 [(20, [(0, [51])], [])] 52 = true := by decide +kernel
theorem eq_X0_signOf_0 : ef_chk ec_Ks ec_TF ec_TR (mt_all 7) ec_X0_signOf_0 [] 65 = true := by decide +kernel
theorem eq_X0_latestHeld_0 : ef_chk ec_Ks ec_TF ec_TR (mt_all 11) ec_X0_latestHeld_0 [(33, [(0, [53])], [(50, 2, [26]), (53, 7, [26])])] 59 = true := by decide +kernel
theorem eq_X0_rankOf_0 : ef_chk ec_Ks ec_TF ec_TR (mt_all 8) ec_X0_rankOf_0 [] 56 = true := by decide +kernel
theorem eq_X4_addCode_0 : ef_chk ec_Ks ec_TF ec_TR (mt_all 58) ec_X4_addCode_0 [(36, [(0, [26])], [])] 60 = true := by decide +kernel
theorem eq_X0_release_0 : ef_chk ec_Ks ec_TF ec_TR (mt_all 12) ec_X0_release_0 [(0, [(0, [53])], [(50, 2, [26]), (53, 7, [26])]), (42, [(0, [53])], [(50, 2, [26]), (53, 7, [26])])] 61 = true := by decide +kernel
theorem eq_X0_hold_0 : ef_chk ec_Ks ec_TF ec_TR (mt_all 10) ec_X0_hold_0 [(39, [(0, [53])], [(50, 2, [26]), (53, 7, [26])])] 62 = true := by decide +kernel
theorem eq_X0_openParen_0 : ef_chk ec_Ks ec_TF ec_TR (mt_all 3) ec_X0_openParen_0 [] 60 = true := by decide +kernel
theorem eq_X0_hold_1 : ef_chk ec_Ks ec_TF ec_TR (mt_all 10) ec_X0_hold_1 [(39, [(0, [53]), (1, [])], [(50, 2, [26]), (53, 7, [26])])] 62 = true := by decide +kernel
theorem eq_X0_holdKnot_0 : ef_chk ec_Ks ec_TF ec_TR (mt_all 9) ec_X0_holdKnot_0 [] 59 = true := by decide +kernel
theorem eq_X0_nameOf_0 : ef_chk ec_Ks ec_TF ec_TR (mt_all 5) ec_X0_nameOf_0 [] 64 = true := by decide +kernel
theorem eq_X0_valueKnot_0 : ef_chk ec_Ks ec_TF ec_TR (mt_all 4) ec_X0_valueKnot_0 [] 78 = true := by decide +kernel
theorem eq_X4_addCode_1 : ef_chk ec_Ks ec_TF ec_TR (mt_all 58) ec_X4_addCode_1 [(36, [(0, [26]), (1, [])], [])] 60 = true := by decide +kernel
theorem eq_X0_readValue_0 : ef_chk ec_Ks ec_TF ec_TR (mt_all 2) ec_X0_readValue_0 [(90, [(0, [53])], [(50, 2, [26]), (53, 7, [26])]), (92, [(0, [53])], [(50, 2, [26]), (53, 7, [26])])] 101 = true := by decide +kernel
theorem eq_X0_rankOf_1 : ef_chk ec_Ks ec_TF ec_TR (mt_all 8) ec_X0_rankOf_1 [] 56 = true := by decide +kernel
theorem eq_X0_holdKnot_1 : ef_chk ec_Ks ec_TF ec_TR (mt_all 9) ec_X0_holdKnot_1 [] 59 = true := by decide +kernel
theorem eq_X0_readJoint_0 : ef_chk ec_Ks ec_TF ec_TR (mt_all 6) ec_X0_readJoint_0 [(50, [(0, [53])], [(50, 2, [26]), (53, 7, [26])]), (106, [(0, [53])], [(50, 2, [26]), (53, 7, [26])])] 117 = true := by decide +kernel
theorem eq_X0_readInto_0 : ef_chk ec_Ks ec_TF ec_TR (mt_all 1) ec_X0_readInto_0 [(32, [(0, [53]), (1, [26])], [(50, 2, [26]), (53, 7, [26])]), (68, [(0, [53]), (1, [26])], [(50, 2, [26]), (53, 7, [26])])] 98 = true := by decide +kernel
theorem eq_X5_fail_1 : ef_chk ec_Ks ec_TF ec_TR (mt_all 61) ec_X5_fail_1 [(23, [(0, [50]), (1, [])], [(50, 2, [26]), (53, 7, [26])])] 53 = true := by decide +kernel
theorem eq_X5_readLaw_0 : ef_chk ec_Ks ec_TF ec_TR (mt_all 66) ec_X5_readLaw_0 [(57, [(0, [50])], [(50, 2, [26])]), (101, [(0, [50])], [(50, 2, [26]), (53, 7, [26])])] 117 = true := by decide +kernel
theorem eq_X5_readGround_0 : ef_chk ec_Ks ec_TF ec_TR (mt_all 65) ec_X5_readGround_0 [(28, [(0, [50])], [(50, 2, [26])])] 71 = true := by decide +kernel
theorem eq_X5_readText_0 : ef_chk ec_Ks ec_TF ec_TR (mt_all 60) ec_X5_readText_0 [(37, [(0, [50]), (1, [26]), (2, [])], [(50, 2, [26])]), (153, [(0, [50]), (1, [26]), (2, [])], [(50, 2, [26])])] 111 = true := by decide +kernel
theorem eq_X2_forget_0 : ef_chk ec_Ks ec_TF ec_TR (mt_all 29) ec_X2_forget_0 [(7, [(0, [55])], [])] 56 = true := by decide +kernel
theorem eq_X4_moreBy_0 : ef_chk ec_Ks ec_TF ec_TR (mt_all 56) ec_X4_moreBy_0 [(5, [(0, [26]), (1, [])], []), (51, [(0, [26]), (1, [])], []), (57, [(0, [26]), (1, [])], [])] 74 = true := by decide +kernel
theorem eq_X1_setCauses_0 : ef_chk ec_Ks ec_TF ec_TR (mt_all 15) ec_X1_setCauses_0 [] 62 = true := by decide +kernel
theorem eq_X1_begin_0 : ef_chk ec_Ks ec_TF ec_TR (mt_all 14) ec_X1_begin_0 [(13, [(0, [103, 105, 107, 109]), (1, [26]), (2, [])], [])] 107 = true := by decide +kernel
theorem eq_X10_clear_0 : ef_chk ec_Ks ec_TF ec_TR (mt_all 101) ec_X10_clear_0 [] 44 = true := by decide +kernel
theorem eq_X3_clear_0 : ef_chk ec_Ks ec_TF ec_TR (mt_all 41) ec_X3_clear_0 [] 47 = true := by decide +kernel
theorem eq_X11_takeSpare_0 : ef_chk ec_Ks ec_TF ec_TR (mt_all 110) ec_X11_takeSpare_0 [(27, [(0, [0]), (1, [2])], [(0, 2, [26]), (0, 3, [2])])] 81 = true := by decide +kernel
theorem eq_X11_text_0 : ef_chk ec_Ks ec_TF ec_TR (mt_all 109) ec_X11_text_0 [(12, [(0, [0])], [(0, 2, [2]), (0, 3, [26])]), (42, [(0, [0])], [(0, 2, [2, 26]), (0, 3, [2, 26]), (50, 2, [26])])] 65 = true := by decide +kernel
theorem eq_X7_setHeight_1 : ef_chk ec_Ks ec_TF ec_TR (mt_all 87) ec_X7_setHeight_1 [] 52 = true := by decide +kernel
theorem eq_X7_clear_1 : ef_chk ec_Ks ec_TF ec_TR (mt_all 86) ec_X7_clear_1 [(83, [(0, [18, 20, 22, 24])], [])] 97 = true := by decide +kernel
theorem eq_X4_clear_1 : ef_chk ec_Ks ec_TF ec_TR (mt_all 49) ec_X4_clear_1 [(2, [(0, [2])], []), (24, [(0, [2])], []), (58, [(0, [2])], [])] 102 = true := by decide +kernel
theorem eq_X11_placeOf_4 : ef_chk ec_Ks ec_TF ec_TR (mt_all 113) ec_X11_placeOf_4 [(2, [(0, []), (1, [14]), (2, [])], []), (28, [(0, []), (1, [14]), (2, [])], [])] 60 = true := by decide +kernel
theorem eq_X5_fail_2 : ef_chk ec_Ks ec_TF ec_TR (mt_all 61) ec_X5_fail_2 [(23, [(0, [50])], [(50, 2, [2])])] 53 = true := by decide +kernel
theorem eq_X5_readNewName_3 : ef_chk ec_Ks ec_TF ec_TR (mt_all 64) ec_X5_readNewName_3 [(18, [(0, [50]), (1, [14]), (2, [])], [(50, 2, [2])])] 71 = true := by decide +kernel
theorem eq_X5_readNumber_2 : ef_chk ec_Ks ec_TF ec_TR (mt_all 63) ec_X5_readNumber_2 [(39, [(0, [50])], [(50, 2, [2])]), (52, [(0, [50])], [(50, 2, [2])]), (70, [(0, [50])], [(50, 2, [2])]), (112, [(0, [50])], [(50, 2, [2])])] 102 = true := by decide +kernel
theorem eq_X5_readCause_1 : ef_chk ec_Ks ec_TF ec_TR (mt_all 74) ec_X5_readCause_1 [(18, [(0, [50])], [(50, 2, [2])]), (89, [(0, [50])], [(50, 2, [2])])] 120 = true := by decide +kernel
theorem eq_X5_readSemicolon_1 : ef_chk ec_Ks ec_TF ec_TR (mt_all 62) ec_X5_readSemicolon_1 [(19, [(0, [50])], [(50, 2, [2])])] 57 = true := by decide +kernel
theorem eq_X11_placeOf_5 : ef_chk ec_Ks ec_TF ec_TR (mt_all 113) ec_X11_placeOf_5 [(2, [(0, []), (1, [10]), (2, [])], []), (28, [(0, []), (1, [10]), (2, [])], [])] 60 = true := by decide +kernel
theorem eq_X5_readNewName_4 : ef_chk ec_Ks ec_TF ec_TR (mt_all 64) ec_X5_readNewName_4 [(18, [(0, [50]), (1, [10]), (2, [])], [(50, 2, [2])])] 71 = true := by decide +kernel
theorem eq_X5_kindOf_1 : ef_chk ec_Ks ec_TF ec_TR (mt_all 72) ec_X5_kindOf_1 [] 58 = true := by decide +kernel
theorem eq_X5_mostOf_1 : ef_chk ec_Ks ec_TF ec_TR (mt_all 73) ec_X5_mostOf_1 [] 52 = true := by decide +kernel
theorem eq_X5_readNumber_3 : ef_chk ec_Ks ec_TF ec_TR (mt_all 63) ec_X5_readNumber_3 [(39, [(0, [50])], [(50, 2, [2])]), (52, [(0, [50])], [(50, 2, [2])]), (70, [(0, [50])], [(50, 2, [2])]), (112, [(0, [50])], [(50, 2, [2])])] 102 = true := by decide +kernel
theorem eq_X5_readWork_1 : ef_chk ec_Ks ec_TF ec_TR (mt_all 71) ec_X5_readWork_1 [(18, [(0, [50])], [(50, 2, [2])]), (101, [(0, [50])], [(50, 2, [2])])] 132 = true := by decide +kernel
theorem eq_X11_placeOf_6 : ef_chk ec_Ks ec_TF ec_TR (mt_all 113) ec_X11_placeOf_6 [(2, [(0, []), (1, [9]), (2, [])], []), (28, [(0, []), (1, [9]), (2, [])], [])] 60 = true := by decide +kernel
theorem eq_X5_readNewName_5 : ef_chk ec_Ks ec_TF ec_TR (mt_all 64) ec_X5_readNewName_5 [(18, [(0, [50]), (1, [9]), (2, [])], [(50, 2, [2])])] 71 = true := by decide +kernel
theorem eq_X5_readBrace_1 : ef_chk ec_Ks ec_TF ec_TR (mt_all 69) ec_X5_readBrace_1 [] 65 = true := by decide +kernel
theorem eq_X11_placeOf_7 : ef_chk ec_Ks ec_TF ec_TR (mt_all 113) ec_X11_placeOf_7 [(2, [], []), (28, [], [])] 60 = true := by decide +kernel
