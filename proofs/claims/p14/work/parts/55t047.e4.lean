section
/-! ===== the checks by cells (1) ===== -/
theorem eq_X7_setHeight_0 : ef_chk ec_Ks ec_TF ec_TR (mt_all 87) ec_X7_setHeight_0 [] 52 = true := by decide +kernel
theorem eq_X7_clear_0 : ef_chk ec_Ks ec_TF ec_TR (mt_all 86) ec_X7_clear_0 [(83, [(0, [42, 44, 46, 48])], [])] 97 = true := by decide +kernel
theorem eq_X4_clear_0 : ef_chk ec_Ks ec_TF ec_TR (mt_all 49) ec_X4_clear_0 [(2, [(0, [26])], []), (24, [(0, [26])], []), (58, [(0, [26])], [])] 102 = true := by decide +kernel
theorem eq_X6_letterBits_0 : ef_chk ec_Ks ec_TF ec_TR (mt_all 76) ec_X6_letterBits_0 [] 57 = true := by decide +kernel
theorem eq_X6_readLetters_0 : ef_chk ec_Ks ec_TF ec_TR (mt_all 79) ec_X6_readLetters_0 [(2, [(0, [51])], []), (79, [(0, [51])], []), (96, [(0, [51])], []), (133, [(0, [51])], []), (139, [(0, [51])], [])] 114 = true := by decide +kernel
theorem eq_X6_readDigits_0 : ef_chk ec_Ks ec_TF ec_TR (mt_all 80) ec_X6_readDigits_0 [(0, [(0, [51])], []), (81, [(0, [51])], [])] 86 = true := by decide +kernel
theorem eq_X6_takes_0 : ef_chk ec_Ks ec_TF ec_TR (mt_all 82) ec_X6_takes_0 [(36, [(0, [51])], [])] 62 = true := by decide +kernel
theorem eq_X6_readSign_0 : ef_chk ec_Ks ec_TF ec_TR (mt_all 81) ec_X6_readSign_0 [(271, [(0, [51])], [])] 113 = true := by decide +kernel
theorem eq_X6_step_0 : ef_chk ec_Ks ec_TF ec_TR (mt_all 78) ec_X6_step_0 [(0, [(0, [51])], []), (39, [(0, [51])], []), (52, [(0, [51])], []), (119, [(0, [51])], []), (154, [(0, [51])], []), (167, [(0, [51])], [])] 124 = true := by decide +kernel
theorem eq_X6_begin_0 : ef_chk ec_Ks ec_TF ec_TR (mt_all 77) ec_X6_begin_0 [] 55 = true := by decide +kernel
theorem eq_X11_placeOf_0 : ef_chk ec_Ks ec_TF ec_TR (mt_all 113) ec_X11_placeOf_0 [(2, [(0, []), (1, [38]), (2, [])], []), (28, [(0, []), (1, [38]), (2, [])], [])] 60 = true := by decide +kernel
theorem eq_X5_fail_0 : ef_chk ec_Ks ec_TF ec_TR (mt_all 61) ec_X5_fail_0 [(23, [(0, [50])], [(50, 2, [26])])] 53 = true := by decide +kernel
theorem eq_X5_readNewName_0 : ef_chk ec_Ks ec_TF ec_TR (mt_all 64) ec_X5_readNewName_0 [(18, [(0, [50]), (1, [38]), (2, [])], [(50, 2, [26])])] 71 = true := by decide +kernel
theorem eq_X5_readNumber_0 : ef_chk ec_Ks ec_TF ec_TR (mt_all 63) ec_X5_readNumber_0 [(39, [(0, [50])], [(50, 2, [26])]), (52, [(0, [50])], [(50, 2, [26])]), (70, [(0, [50])], [(50, 2, [26])]), (112, [(0, [50])], [(50, 2, [26])])] 102 = true := by decide +kernel
theorem eq_X6_isWordFrom_0 : ef_chk ec_Ks ec_TF ec_TR (mt_all 84) ec_X6_isWordFrom_0 [(28, [(0, [51])], [])] 56 = true := by decide +kernel
theorem eq_X5_readCause_0 : ef_chk ec_Ks ec_TF ec_TR (mt_all 74) ec_X5_readCause_0 [(18, [(0, [50])], [(50, 2, [26])]), (89, [(0, [50])], [(50, 2, [26])])] 120 = true := by decide +kernel
theorem eq_X5_readSemicolon_0 : ef_chk ec_Ks ec_TF ec_TR (mt_all 62) ec_X5_readSemicolon_0 [(19, [(0, [50])], [(50, 2, [26])])] 57 = true := by decide +kernel
theorem eq_X11_placeOf_1 : ef_chk ec_Ks ec_TF ec_TR (mt_all 113) ec_X11_placeOf_1 [(2, [(0, []), (1, [34]), (2, [])], []), (28, [(0, []), (1, [34]), (2, [])], [])] 60 = true := by decide +kernel
theorem eq_X5_readNewName_1 : ef_chk ec_Ks ec_TF ec_TR (mt_all 64) ec_X5_readNewName_1 [(18, [(0, [50]), (1, [34]), (2, [])], [(50, 2, [26])])] 71 = true := by decide +kernel
theorem eq_X5_kindOf_0 : ef_chk ec_Ks ec_TF ec_TR (mt_all 72) ec_X5_kindOf_0 [] 58 = true := by decide +kernel
theorem eq_X5_mostOf_0 : ef_chk ec_Ks ec_TF ec_TR (mt_all 73) ec_X5_mostOf_0 [] 52 = true := by decide +kernel
theorem eq_X5_readNumber_1 : ef_chk ec_Ks ec_TF ec_TR (mt_all 63) ec_X5_readNumber_1 [(39, [(0, [50])], [(50, 2, [26])]), (52, [(0, [50])], [(50, 2, [26])]), (70, [(0, [50])], [(50, 2, [26])]), (112, [(0, [50])], [(50, 2, [26])])] 102 = true := by decide +kernel
theorem eq_X5_readWork_0 : ef_chk ec_Ks ec_TF ec_TR (mt_all 71) ec_X5_readWork_0 [(18, [(0, [50])], [(50, 2, [26])]), (101, [(0, [50])], [(50, 2, [26])])] 132 = true := by decide +kernel
theorem eq_X11_placeOf_2 : ef_chk ec_Ks ec_TF ec_TR (mt_all 113) ec_X11_placeOf_2 [(2, [(0, []), (1, [33]), (2, [])], []), (28, [(0, []), (1, [33]), (2, [])], [])] 60 = true := by decide +kernel
theorem eq_X5_readNewName_2 : ef_chk ec_Ks ec_TF ec_TR (mt_all 64) ec_X5_readNewName_2 [(18, [(0, [50]), (1, [33]), (2, [])], [(50, 2, [26])])] 71 = true := by decide +kernel
theorem eq_X5_readBrace_0 : ef_chk ec_Ks ec_TF ec_TR (mt_all 69) ec_X5_readBrace_0 [] 65 = true := by decide +kernel
theorem eq_X11_placeOf_3 : ef_chk ec_Ks ec_TF ec_TR (mt_all 113) ec_X11_placeOf_3 [(2, [], []), (28, [], [])] 60 = true := by decide +kernel
theorem eq_X5_readHas_0 : ef_chk ec_Ks ec_TF ec_TR (mt_all 70) ec_X5_readHas_0 [] 93 = true := by decide +kernel
theorem eq_X5_readPart_0 : ef_chk ec_Ks ec_TF ec_TR (mt_all 68) ec_X5_readPart_0 [(32, [(0, [50]), (1, [42, 44, 46, 48])], [(50, 2, [26])]), (247, [(0, [50]), (1, [42, 44, 46, 48])], [(50, 2, [26])]), (284, [(0, [50]), (1, [42, 44, 46, 48])], [(50, 2, [26])])] 168 = true := by decide +kernel
theorem eq_X5_readGate_0 : ef_chk ec_Ks ec_TF ec_TR (mt_all 67) ec_X5_readGate_0 [(17, [(0, [50])], [(50, 2, [26])]), (102, [(0, [50]), (2, [42, 44, 46, 48])], [(50, 2, [26])]), (141, [(0, [50]), (2, [42, 44, 46, 48])], [(50, 2, [26])])] 118 = true := by decide +kernel
theorem eq_X4_isLaw_0 : ef_chk ec_Ks ec_TF ec_TR (mt_all 52) ec_X4_isLaw_0 [(28, [(0, [26]), (1, [])], [])] 58 = true := by decide +kernel
theorem eq_X6_isWord_0 : ef_chk ec_Ks ec_TF ec_TR (mt_all 83) ec_X6_isWord_0 [(20, [(0, [51])], [])] 52 = true := by decide +kernel
theorem eq_X0_signOf_0 : ef_chk ec_Ks ec_TF ec_TR (mt_all 7) ec_X0_signOf_0 [] 65 = true := by decide +kernel
theorem eq_X0_latestHeld_0 : ef_chk ec_Ks ec_TF ec_TR (mt_all 11) ec_X0_latestHeld_0 [(33, [(0, [53])], [(50, 2, [26]), (53, 7, [26])])] 59 = true := by decide +kernel
theorem eq_X0_rankOf_0 : ef_chk ec_Ks ec_TF ec_TR (mt_all 8) ec_X0_rankOf_0 [] 56 = true := by decide +kernel
theorem eq_X4_addCode_0 : ef_chk ec_Ks ec_TF ec_TR (mt_all 58) ec_X4_addCode_0 [(36, [(0, [26])], [])] 60 = true := by decide +kernel
theorem eq_X0_release_0 : ef_chk ec_Ks ec_TF ec_TR (mt_all 12) ec_X0_release_0 [(0, [(0, [53])], [(50, 2, [26]), (53, 7, [26])]), (42, [(0, [53])], [(50, 2, [26]), (53, 7, [26])])] 61 = true := by decide +kernel
theorem eq_X0_hold_0 : ef_chk ec_Ks ec_TF ec_TR (mt_all 10) ec_X0_hold_0 [(39, [(0, [53])], [(50, 2, [26]), (53, 7, [26])])] 62 = true := by decide +kernel
theorem eq_X0_openParen_0 : ef_chk ec_Ks ec_TF ec_TR (mt_all 3) ec_X0_openParen_0 [] 60 = true := by decide +kernel
theorem eq_X0_hold_1 : ef_chk ec_Ks ec_TF ec_TR (mt_all 10) ec_X0_hold_1 [(39, [(0, [53]), (1, [])], [(50, 2, [26]), (53, 7, [26])])] 62 = true := by decide +kernel
theorem eq_X0_holdKnot_0 : ef_chk ec_Ks ec_TF ec_TR (mt_all 9) ec_X0_holdKnot_0 [] 59 = true := by decide +kernel
theorem eq_X0_nameOf_0 : ef_chk ec_Ks ec_TF ec_TR (mt_all 5) ec_X0_nameOf_0 [] 64 = true := by decide +kernel
theorem eq_X0_valueKnot_0 : ef_chk ec_Ks ec_TF ec_TR (mt_all 4) ec_X0_valueKnot_0 [] 78 = true := by decide +kernel
theorem eq_X4_addCode_1 : ef_chk ec_Ks ec_TF ec_TR (mt_all 58) ec_X4_addCode_1 [(36, [(0, [26]), (1, [])], [])] 60 = true := by decide +kernel
theorem eq_X0_readValue_0 : ef_chk ec_Ks ec_TF ec_TR (mt_all 2) ec_X0_readValue_0 [(90, [(0, [53])], [(50, 2, [26]), (53, 7, [26])]), (92, [(0, [53])], [(50, 2, [26]), (53, 7, [26])])] 101 = true := by decide +kernel
theorem eq_X0_rankOf_1 : ef_chk ec_Ks ec_TF ec_TR (mt_all 8) ec_X0_rankOf_1 [] 56 = true := by decide +kernel
theorem eq_X0_holdKnot_1 : ef_chk ec_Ks ec_TF ec_TR (mt_all 9) ec_X0_holdKnot_1 [] 59 = true := by decide +kernel
theorem eq_X0_readJoint_0 : ef_chk ec_Ks ec_TF ec_TR (mt_all 6) ec_X0_readJoint_0 [(50, [(0, [53])], [(50, 2, [26]), (53, 7, [26])]), (106, [(0, [53])], [(50, 2, [26]), (53, 7, [26])])] 117 = true := by decide +kernel
theorem eq_X0_readInto_0 : ef_chk ec_Ks ec_TF ec_TR (mt_all 1) ec_X0_readInto_0 [(32, [(0, [53]), (1, [26])], [(50, 2, [26]), (53, 7, [26])]), (68, [(0, [53]), (1, [26])], [(50, 2, [26]), (53, 7, [26])])] 98 = true := by decide +kernel
theorem eq_X5_fail_1 : ef_chk ec_Ks ec_TF ec_TR (mt_all 61) ec_X5_fail_1 [(23, [(0, [50]), (1, [])], [(50, 2, [26]), (53, 7, [26])])] 53 = true := by decide +kernel
theorem eq_X5_readLaw_0 : ef_chk ec_Ks ec_TF ec_TR (mt_all 66) ec_X5_readLaw_0 [(57, [(0, [50])], [(50, 2, [26])]), (101, [(0, [50])], [(50, 2, [26]), (53, 7, [26])])] 117 = true := by decide +kernel
theorem eq_X5_readGround_0 : ef_chk ec_Ks ec_TF ec_TR (mt_all 65) ec_X5_readGround_0 [(28, [(0, [50])], [(50, 2, [26])])] 71 = true := by decide +kernel
theorem eq_X5_readText_0 : ef_chk ec_Ks ec_TF ec_TR (mt_all 60) ec_X5_readText_0 [(37, [(0, [50]), (1, [26]), (2, [])], [(50, 2, [26])]), (153, [(0, [50]), (1, [26]), (2, [])], [(50, 2, [26])])] 111 = true := by decide +kernel
theorem eq_X2_forget_0 : ef_chk ec_Ks ec_TF ec_TR (mt_all 29) ec_X2_forget_0 [(7, [(0, [55])], [])] 56 = true := by decide +kernel
theorem eq_X4_moreBy_0 : ef_chk ec_Ks ec_TF ec_TR (mt_all 56) ec_X4_moreBy_0 [(5, [(0, [26]), (1, [])], []), (51, [(0, [26]), (1, [])], []), (57, [(0, [26]), (1, [])], [])] 74 = true := by decide +kernel
theorem eq_X1_setCauses_0 : ef_chk ec_Ks ec_TF ec_TR (mt_all 15) ec_X1_setCauses_0 [] 62 = true := by decide +kernel
theorem eq_X1_begin_0 : ef_chk ec_Ks ec_TF ec_TR (mt_all 14) ec_X1_begin_0 [(13, [(0, [103, 105, 107, 109]), (1, [26]), (2, [])], [])] 107 = true := by decide +kernel
theorem eq_X10_clear_0 : ef_chk ec_Ks ec_TF ec_TR (mt_all 101) ec_X10_clear_0 [] 44 = true := by decide +kernel
theorem eq_X3_clear_0 : ef_chk ec_Ks ec_TF ec_TR (mt_all 41) ec_X3_clear_0 [] 47 = true := by decide +kernel
theorem eq_X11_takeSpare_0 : ef_chk ec_Ks ec_TF ec_TR (mt_all 110) ec_X11_takeSpare_0 [(27, [(0, [0]), (1, [2])], [(0, 2, [26]), (0, 3, [2])])] 81 = true := by decide +kernel
theorem eq_X11_text_0 : ef_chk ec_Ks ec_TF ec_TR (mt_all 109) ec_X11_text_0 [(12, [(0, [0])], [(0, 2, [2]), (0, 3, [26])]), (42, [(0, [0])], [(0, 2, [2, 26]), (0, 3, [2, 26]), (50, 2, [26])])] 65 = true := by decide +kernel
theorem eq_X7_setHeight_1 : ef_chk ec_Ks ec_TF ec_TR (mt_all 87) ec_X7_setHeight_1 [] 52 = true := by decide +kernel
theorem eq_X7_clear_1 : ef_chk ec_Ks ec_TF ec_TR (mt_all 86) ec_X7_clear_1 [(83, [(0, [18, 20, 22, 24])], [])] 97 = true := by decide +kernel
theorem eq_X4_clear_1 : ef_chk ec_Ks ec_TF ec_TR (mt_all 49) ec_X4_clear_1 [(2, [(0, [2])], []), (24, [(0, [2])], []), (58, [(0, [2])], [])] 102 = true := by decide +kernel
theorem eq_X11_placeOf_4 : ef_chk ec_Ks ec_TF ec_TR (mt_all 113) ec_X11_placeOf_4 [(2, [(0, []), (1, [14]), (2, [])], []), (28, [(0, []), (1, [14]), (2, [])], [])] 60 = true := by decide +kernel
theorem eq_X5_fail_2 : ef_chk ec_Ks ec_TF ec_TR (mt_all 61) ec_X5_fail_2 [(23, [(0, [50])], [(50, 2, [2])])] 53 = true := by decide +kernel
theorem eq_X5_readNewName_3 : ef_chk ec_Ks ec_TF ec_TR (mt_all 64) ec_X5_readNewName_3 [(18, [(0, [50]), (1, [14]), (2, [])], [(50, 2, [2])])] 71 = true := by decide +kernel
theorem eq_X5_readNumber_2 : ef_chk ec_Ks ec_TF ec_TR (mt_all 63) ec_X5_readNumber_2 [(39, [(0, [50])], [(50, 2, [2])]), (52, [(0, [50])], [(50, 2, [2])]), (70, [(0, [50])], [(50, 2, [2])]), (112, [(0, [50])], [(50, 2, [2])])] 102 = true := by decide +kernel
theorem eq_X5_readCause_1 : ef_chk ec_Ks ec_TF ec_TR (mt_all 74) ec_X5_readCause_1 [(18, [(0, [50])], [(50, 2, [2])]), (89, [(0, [50])], [(50, 2, [2])])] 120 = true := by decide +kernel
theorem eq_X5_readSemicolon_1 : ef_chk ec_Ks ec_TF ec_TR (mt_all 62) ec_X5_readSemicolon_1 [(19, [(0, [50])], [(50, 2, [2])])] 57 = true := by decide +kernel
theorem eq_X11_placeOf_5 : ef_chk ec_Ks ec_TF ec_TR (mt_all 113) ec_X11_placeOf_5 [(2, [(0, []), (1, [10]), (2, [])], []), (28, [(0, []), (1, [10]), (2, [])], [])] 60 = true := by decide +kernel
theorem eq_X5_readNewName_4 : ef_chk ec_Ks ec_TF ec_TR (mt_all 64) ec_X5_readNewName_4 [(18, [(0, [50]), (1, [10]), (2, [])], [(50, 2, [2])])] 71 = true := by decide +kernel
theorem eq_X5_kindOf_1 : ef_chk ec_Ks ec_TF ec_TR (mt_all 72) ec_X5_kindOf_1 [] 58 = true := by decide +kernel
theorem eq_X5_mostOf_1 : ef_chk ec_Ks ec_TF ec_TR (mt_all 73) ec_X5_mostOf_1 [] 52 = true := by decide +kernel
theorem eq_X5_readNumber_3 : ef_chk ec_Ks ec_TF ec_TR (mt_all 63) ec_X5_readNumber_3 [(39, [(0, [50])], [(50, 2, [2])]), (52, [(0, [50])], [(50, 2, [2])]), (70, [(0, [50])], [(50, 2, [2])]), (112, [(0, [50])], [(50, 2, [2])])] 102 = true := by decide +kernel
theorem eq_X5_readWork_1 : ef_chk ec_Ks ec_TF ec_TR (mt_all 71) ec_X5_readWork_1 [(18, [(0, [50])], [(50, 2, [2])]), (101, [(0, [50])], [(50, 2, [2])])] 132 = true := by decide +kernel
theorem eq_X11_placeOf_6 : ef_chk ec_Ks ec_TF ec_TR (mt_all 113) ec_X11_placeOf_6 [(2, [(0, []), (1, [9]), (2, [])], []), (28, [(0, []), (1, [9]), (2, [])], [])] 60 = true := by decide +kernel
theorem eq_X5_readNewName_5 : ef_chk ec_Ks ec_TF ec_TR (mt_all 64) ec_X5_readNewName_5 [(18, [(0, [50]), (1, [9]), (2, [])], [(50, 2, [2])])] 71 = true := by decide +kernel
theorem eq_X5_readBrace_1 : ef_chk ec_Ks ec_TF ec_TR (mt_all 69) ec_X5_readBrace_1 [] 65 = true := by decide +kernel
theorem eq_X11_placeOf_7 : ef_chk ec_Ks ec_TF ec_TR (mt_all 113) ec_X11_placeOf_7 [(2, [], []), (28, [], [])] 60 = true := by decide +kernel
end
section
/-! ===== the checks by cells (2) ===== -/
theorem eq_X5_readHas_1 : ef_chk ec_Ks ec_TF ec_TR (mt_all 70) ec_X5_readHas_1 [] 93 = true := by decide +kernel
theorem eq_X5_readPart_1 : ef_chk ec_Ks ec_TF ec_TR (mt_all 68) ec_X5_readPart_1 [(32, [(0, [50]), (1, [18, 20, 22, 24])], [(50, 2, [2])]), (247, [(0, [50]), (1, [18, 20, 22, 24])], [(50, 2, [2])]), (284, [(0, [50]), (1, [18, 20, 22, 24])], [(50, 2, [2])])] 168 = true := by decide +kernel
theorem eq_X5_readGate_1 : ef_chk ec_Ks ec_TF ec_TR (mt_all 67) ec_X5_readGate_1 [(17, [(0, [50])], [(50, 2, [2])]), (102, [(0, [50]), (2, [18, 20, 22, 24])], [(50, 2, [2])]), (141, [(0, [50]), (2, [18, 20, 22, 24])], [(50, 2, [2])])] 118 = true := by decide +kernel
theorem eq_X4_isLaw_1 : ef_chk ec_Ks ec_TF ec_TR (mt_all 52) ec_X4_isLaw_1 [(28, [(0, [2]), (1, [])], [])] 58 = true := by decide +kernel
theorem eq_X0_signOf_1 : ef_chk ec_Ks ec_TF ec_TR (mt_all 7) ec_X0_signOf_1 [] 65 = true := by decide +kernel
theorem eq_X0_latestHeld_1 : ef_chk ec_Ks ec_TF ec_TR (mt_all 11) ec_X0_latestHeld_1 [(33, [(0, [53])], [(50, 2, [2]), (53, 7, [2])])] 59 = true := by decide +kernel
theorem eq_X0_rankOf_2 : ef_chk ec_Ks ec_TF ec_TR (mt_all 8) ec_X0_rankOf_2 [] 56 = true := by decide +kernel
theorem eq_X4_addCode_2 : ef_chk ec_Ks ec_TF ec_TR (mt_all 58) ec_X4_addCode_2 [(36, [(0, [2])], [])] 60 = true := by decide +kernel
theorem eq_X0_release_1 : ef_chk ec_Ks ec_TF ec_TR (mt_all 12) ec_X0_release_1 [(0, [(0, [53])], [(50, 2, [2]), (53, 7, [2])]), (42, [(0, [53])], [(50, 2, [2]), (53, 7, [2])])] 61 = true := by decide +kernel
theorem eq_X0_hold_2 : ef_chk ec_Ks ec_TF ec_TR (mt_all 10) ec_X0_hold_2 [(39, [(0, [53])], [(50, 2, [2]), (53, 7, [2])])] 62 = true := by decide +kernel
theorem eq_X0_openParen_1 : ef_chk ec_Ks ec_TF ec_TR (mt_all 3) ec_X0_openParen_1 [] 60 = true := by decide +kernel
theorem eq_X0_hold_3 : ef_chk ec_Ks ec_TF ec_TR (mt_all 10) ec_X0_hold_3 [(39, [(0, [53]), (1, [])], [(50, 2, [2]), (53, 7, [2])])] 62 = true := by decide +kernel
theorem eq_X0_holdKnot_2 : ef_chk ec_Ks ec_TF ec_TR (mt_all 9) ec_X0_holdKnot_2 [] 59 = true := by decide +kernel
theorem eq_X0_nameOf_1 : ef_chk ec_Ks ec_TF ec_TR (mt_all 5) ec_X0_nameOf_1 [] 64 = true := by decide +kernel
theorem eq_X0_valueKnot_1 : ef_chk ec_Ks ec_TF ec_TR (mt_all 4) ec_X0_valueKnot_1 [] 78 = true := by decide +kernel
theorem eq_X4_addCode_3 : ef_chk ec_Ks ec_TF ec_TR (mt_all 58) ec_X4_addCode_3 [(36, [(0, [2]), (1, [])], [])] 60 = true := by decide +kernel
theorem eq_X0_readValue_1 : ef_chk ec_Ks ec_TF ec_TR (mt_all 2) ec_X0_readValue_1 [(90, [(0, [53])], [(50, 2, [2]), (53, 7, [2])]), (92, [(0, [53])], [(50, 2, [2]), (53, 7, [2])])] 101 = true := by decide +kernel
theorem eq_X0_rankOf_3 : ef_chk ec_Ks ec_TF ec_TR (mt_all 8) ec_X0_rankOf_3 [] 56 = true := by decide +kernel
theorem eq_X0_holdKnot_3 : ef_chk ec_Ks ec_TF ec_TR (mt_all 9) ec_X0_holdKnot_3 [] 59 = true := by decide +kernel
theorem eq_X0_readJoint_1 : ef_chk ec_Ks ec_TF ec_TR (mt_all 6) ec_X0_readJoint_1 [(50, [(0, [53])], [(50, 2, [2]), (53, 7, [2])]), (106, [(0, [53])], [(50, 2, [2]), (53, 7, [2])])] 117 = true := by decide +kernel
theorem eq_X0_readInto_1 : ef_chk ec_Ks ec_TF ec_TR (mt_all 1) ec_X0_readInto_1 [(32, [(0, [53]), (1, [2])], [(50, 2, [2]), (53, 7, [2])]), (68, [(0, [53]), (1, [2])], [(50, 2, [2]), (53, 7, [2])])] 98 = true := by decide +kernel
theorem eq_X5_fail_3 : ef_chk ec_Ks ec_TF ec_TR (mt_all 61) ec_X5_fail_3 [(23, [(0, [50]), (1, [])], [(50, 2, [2]), (53, 7, [2])])] 53 = true := by decide +kernel
theorem eq_X5_readLaw_1 : ef_chk ec_Ks ec_TF ec_TR (mt_all 66) ec_X5_readLaw_1 [(57, [(0, [50])], [(50, 2, [2])]), (101, [(0, [50])], [(50, 2, [2]), (53, 7, [2])])] 117 = true := by decide +kernel
theorem eq_X5_readGround_1 : ef_chk ec_Ks ec_TF ec_TR (mt_all 65) ec_X5_readGround_1 [(28, [(0, [50])], [(50, 2, [2])])] 71 = true := by decide +kernel
theorem eq_X5_readText_1 : ef_chk ec_Ks ec_TF ec_TR (mt_all 60) ec_X5_readText_1 [(37, [(0, [50]), (1, [2]), (2, [])], [(50, 2, [2])]), (153, [(0, [50]), (1, [2]), (2, [])], [(50, 2, [2])])] 111 = true := by decide +kernel
theorem eq_X4_moreBy_1 : ef_chk ec_Ks ec_TF ec_TR (mt_all 56) ec_X4_moreBy_1 [(5, [(0, [2]), (1, [])], []), (51, [(0, [2]), (1, [])], []), (57, [(0, [2]), (1, [])], [])] 74 = true := by decide +kernel
theorem eq_X1_setCauses_1 : ef_chk ec_Ks ec_TF ec_TR (mt_all 15) ec_X1_setCauses_1 [] 62 = true := by decide +kernel
theorem eq_X1_begin_1 : ef_chk ec_Ks ec_TF ec_TR (mt_all 14) ec_X1_begin_1 [(13, [(0, [103, 105, 107, 109]), (1, [2]), (2, [])], [])] 107 = true := by decide +kernel
theorem eq_X11_takeSpare_1 : ef_chk ec_Ks ec_TF ec_TR (mt_all 110) ec_X11_takeSpare_1 [(27, [(0, [0]), (1, [26])], [(0, 2, [2]), (0, 3, [26])])] 81 = true := by decide +kernel
theorem eq_X11_text_1 : ef_chk ec_Ks ec_TF ec_TR (mt_all 109) ec_X11_text_1 [(12, [(0, [0])], [(0, 2, [26]), (0, 3, [2])]), (42, [(0, [0])], [(0, 2, [2, 26]), (0, 3, [2, 26]), (50, 2, [2])])] 65 = true := by decide +kernel
theorem eq_X11_fault_0 : ef_chk ec_Ks ec_TF ec_TR (mt_all 111) ec_X11_fault_0 [] 55 = true := by decide +kernel
theorem eq_X11_placeOf_8 : ef_chk ec_Ks ec_TF ec_TR (mt_all 113) ec_X11_placeOf_8 [(2, [(0, []), (1, [9, 33])], []), (28, [(0, []), (1, [9, 33])], [])] 60 = true := by decide +kernel
theorem eq_X11_placeOf_9 : ef_chk ec_Ks ec_TF ec_TR (mt_all 113) ec_X11_placeOf_9 [(2, [(0, []), (1, [10, 34])], []), (28, [(0, []), (1, [10, 34])], [])] 60 = true := by decide +kernel
theorem eq_X11_placeOf_10 : ef_chk ec_Ks ec_TF ec_TR (mt_all 113) ec_X11_placeOf_10 [(2, [(0, []), (1, [14, 38])], []), (28, [(0, []), (1, [14, 38])], [])] 60 = true := by decide +kernel
theorem eq_X11_named_0 : ef_chk ec_Ks ec_TF ec_TR (mt_all 112) ec_X11_named_0 [] 77 = true := by decide +kernel
theorem eq_X4_isWork_0 : ef_chk ec_Ks ec_TF ec_TR (mt_all 50) ec_X4_isWork_0 [(22, [(0, [2, 26]), (1, [])], [])] 53 = true := by decide +kernel
theorem eq_X11_works_0 : ef_chk ec_Ks ec_TF ec_TR (mt_all 119) ec_X11_works_0 [(20, [(0, [0])], [])] 75 = true := by decide +kernel
theorem eq_X11_isWeek_0 : ef_chk ec_Ks ec_TF ec_TR (mt_all 118) ec_X11_isWeek_0 [(15, [(0, [])], [])] 49 = true := by decide +kernel
theorem eq_X4_firmIn_0 : ef_chk ec_Ks ec_TF ec_TR (mt_all 53) ec_X4_firmIn_0 [] 55 = true := by decide +kernel
theorem eq_X11_firm_0 : ef_chk ec_Ks ec_TF ec_TR (mt_all 120) ec_X11_firm_0 [] 50 = true := by decide +kernel
theorem eq_X11_isAhead_0 : ef_chk ec_Ks ec_TF ec_TR (mt_all 116) ec_X11_isAhead_0 [(15, [(0, [])], [])] 49 = true := by decide +kernel
theorem eq_X7_span_0 : ef_chk ec_Ks ec_TF ec_TR (mt_all 88) ec_X7_span_0 [] 46 = true := by decide +kernel
theorem eq_X1_pull_0 : ef_chk ec_Ks ec_TF ec_TR (mt_all 17) ec_X1_pull_0 [] 74 = true := by decide +kernel
theorem eq_X2_put_0 : ef_chk ec_Ks ec_TF ec_TR (mt_all 30) ec_X2_put_0 [(40, [(0, [55])], [])] 66 = true := by decide +kernel
theorem eq_X1_leanPart_0 : ef_chk ec_Ks ec_TF ec_TR (mt_all 18) ec_X1_leanPart_0 [] 57 = true := by decide +kernel
theorem eq_X1_hooksPart_0 : ef_chk ec_Ks ec_TF ec_TR (mt_all 19) ec_X1_hooksPart_0 [] 57 = true := by decide +kernel
theorem eq_X1_drop_0 : ef_chk ec_Ks ec_TF ec_TR (mt_all 20) ec_X1_drop_0 [] 52 = true := by decide +kernel
theorem eq_X2_see_0 : ef_chk ec_Ks ec_TF ec_TR (mt_all 31) ec_X2_see_0 [] 112 = true := by decide +kernel
theorem eq_X4_isLaw_2 : ef_chk ec_Ks ec_TF ec_TR (mt_all 52) ec_X4_isLaw_2 [(28, [(0, [2, 26]), (1, [])], [])] 58 = true := by decide +kernel
theorem eq_X2_valueOf_0 : ef_chk ec_Ks ec_TF ec_TR (mt_all 35) ec_X2_valueOf_0 [(25, [(0, [55]), (1, [])], [])] 57 = true := by decide +kernel
theorem eq_X2_times_0 : ef_chk ec_Ks ec_TF ec_TR (mt_all 38) ec_X2_times_0 [] 66 = true := by decide +kernel
theorem eq_X2_bounded_0 : ef_chk ec_Ks ec_TF ec_TR (mt_all 37) ec_X2_bounded_0 [] 55 = true := by decide +kernel
theorem eq_X2_by_0 : ef_chk ec_Ks ec_TF ec_TR (mt_all 39) ec_X2_by_0 [] 59 = true := by decide +kernel
theorem eq_X2_join_0 : ef_chk ec_Ks ec_TF ec_TR (mt_all 36) ec_X2_join_0 [(77, [(0, [55]), (1, [])], []), (100, [(0, [55]), (1, [])], [])] 136 = true := by decide +kernel
theorem eq_X2_workOut_0 : ef_chk ec_Ks ec_TF ec_TR (mt_all 34) ec_X2_workOut_0 [(40, [(0, [55]), (1, [2, 26]), (2, [])], []), (121, [(0, [55]), (1, [2, 26]), (2, [])], []), (220, [(0, [55]), (1, [2, 26]), (2, [])], []), (240, [(0, [55]), (1, [2, 26]), (2, [])], [])] 172 = true := by decide +kernel
theorem eq_X2_refresh_0 : ef_chk ec_Ks ec_TF ec_TR (mt_all 33) ec_X2_refresh_0 [(22, [(0, [55]), (1, [2, 26]), (2, [])], []), (78, [(0, [55]), (1, [2, 26]), (2, [])], [])] 83 = true := by decide +kernel
theorem eq_X1_grow_0 : ef_chk ec_Ks ec_TF ec_TR (mt_all 24) ec_X1_grow_0 [] 74 = true := by decide +kernel
theorem eq_X2_pass_0 : ef_chk ec_Ks ec_TF ec_TR (mt_all 32) ec_X2_pass_0 [(3, [(0, [55]), (1, [2, 26]), (2, [103, 105, 107, 109])], []), (24, [(0, [55]), (1, [2, 26]), (2, [103, 105, 107, 109])], [])] 84 = true := by decide +kernel
theorem eq_X11_weeks_0 : ef_chk ec_Ks ec_TF ec_TR (mt_all 121) ec_X11_weeks_0 [(19, [(0, [0])], []), (23, [(0, [0])], []), (71, [(0, [0])], [])] 86 = true := by decide +kernel
theorem eq_X11_isGate_0 : ef_chk ec_Ks ec_TF ec_TR (mt_all 114) ec_X11_isGate_0 [(28, [(0, [0]), (1, [])], [])] 56 = true := by decide +kernel
theorem eq_X11_sags_0 : ef_chk ec_Ks ec_TF ec_TR (mt_all 122) ec_X11_sags_0 [] 79 = true := by decide +kernel
theorem eq_X1_isLatched_0 : ef_chk ec_Ks ec_TF ec_TR (mt_all 22) ec_X1_isLatched_0 [(32, [(0, [103, 105, 107, 109])], [])] 58 = true := by decide +kernel
theorem eq_X11_latched_0 : ef_chk ec_Ks ec_TF ec_TR (mt_all 123) ec_X11_latched_0 [] 56 = true := by decide +kernel
theorem eq_X11_gives_0 : ef_chk ec_Ks ec_TF ec_TR (mt_all 124) ec_X11_gives_0 [] 74 = true := by decide +kernel
theorem eq_X10_dropEarliest_0 : ef_chk ec_Ks ec_TF ec_TR (mt_all 103) ec_X10_dropEarliest_0 [(9, [(0, [63]), (1, [66, 67, 68, 69, 70, 71, 72, 73, 74, 75, 76, 77, 78, 79, 80, 81, 82, 83, 84, 85])], [])] 81 = true := by decide +kernel
theorem eq_X1_copy_0 : ef_chk ec_Ks ec_TF ec_TR (mt_all 16) ec_X1_copy_0 [] 109 = true := by decide +kernel
theorem eq_X10_push_0 : ef_chk ec_Ks ec_TF ec_TR (mt_all 102) ec_X10_push_0 [(13, [(0, [63]), (1, []), (2, [103, 105, 107, 109])], []), (62, [(0, [63]), (1, []), (2, [103, 105, 107, 109])], [])] 73 = true := by decide +kernel
theorem eq_X1_take_0 : ef_chk ec_Ks ec_TF ec_TR (mt_all 23) ec_X1_take_0 [(155, [(0, [103, 105, 107, 109]), (1, [2, 26]), (2, [])], [])] 109 = true := by decide +kernel
theorem eq_X11_work_0 : ef_chk ec_Ks ec_TF ec_TR (mt_all 125) ec_X11_work_0 [(19, [(0, [0])], [])] 77 = true := by decide +kernel
theorem eq_X10_latestGate_0 : ef_chk ec_Ks ec_TF ec_TR (mt_all 104) ec_X10_latestGate_0 [(30, [(0, [63])], [])] 57 = true := by decide +kernel
theorem eq_X1_copy_1 : ef_chk ec_Ks ec_TF ec_TR (mt_all 16) ec_X1_copy_1 [] 109 = true := by decide +kernel
theorem eq_X10_popInto_0 : ef_chk ec_Ks ec_TF ec_TR (mt_all 105) ec_X10_popInto_0 [(39, [(0, [63]), (1, [103, 105, 107, 109])], [])] 61 = true := by decide +kernel
theorem eq_X11_undo_0 : ef_chk ec_Ks ec_TF ec_TR (mt_all 126) ec_X11_undo_0 [(41, [(0, [0])], [])] 65 = true := by decide +kernel
theorem eq_X11_isBound_0 : ef_chk ec_Ks ec_TF ec_TR (mt_all 115) ec_X11_isBound_0 [(16, [(0, [])], [])] 50 = true := by decide +kernel
theorem eq_X1_copy_2 : ef_chk ec_Ks ec_TF ec_TR (mt_all 16) ec_X1_copy_2 [] 109 = true := by decide +kernel
theorem eq_X1_pull_1 : ef_chk ec_Ks ec_TF ec_TR (mt_all 17) ec_X1_pull_1 [] 74 = true := by decide +kernel
theorem eq_X1_leanPart_1 : ef_chk ec_Ks ec_TF ec_TR (mt_all 18) ec_X1_leanPart_1 [] 57 = true := by decide +kernel
theorem eq_X1_hooksPart_1 : ef_chk ec_Ks ec_TF ec_TR (mt_all 19) ec_X1_hooksPart_1 [] 57 = true := by decide +kernel
theorem eq_X1_drop_1 : ef_chk ec_Ks ec_TF ec_TR (mt_all 20) ec_X1_drop_1 [] 52 = true := by decide +kernel
theorem eq_X2_see_1 : ef_chk ec_Ks ec_TF ec_TR (mt_all 31) ec_X2_see_1 [] 112 = true := by decide +kernel
end
section
/-! ===== the checks by cells (3) ===== -/
theorem eq_X1_grow_1 : ef_chk ec_Ks ec_TF ec_TR (mt_all 24) ec_X1_grow_1 [] 74 = true := by decide +kernel
theorem eq_X2_pass_1 : ef_chk ec_Ks ec_TF ec_TR (mt_all 32) ec_X2_pass_1 [(3, [(0, [55]), (1, [2, 26]), (2, [98])], []), (24, [(0, [55]), (1, [2, 26]), (2, [98])], [])] 84 = true := by decide +kernel
theorem eq_X11_lasts_0 : ef_chk ec_Ks ec_TF ec_TR (mt_all 127) ec_X11_lasts_0 [(15, [(0, [0])], []), (32, [(0, [0])], [])] 86 = true := by decide +kernel
theorem eq_X4_costOf_0 : ef_chk ec_Ks ec_TF ec_TR (mt_all 55) ec_X4_costOf_0 [(4, [(0, [2, 26]), (1, [])], []), (35, [(0, [2, 26]), (1, [])], []), (41, [(0, [2, 26]), (1, [])], [])] 68 = true := by decide +kernel
theorem eq_X1_take_1 : ef_chk ec_Ks ec_TF ec_TR (mt_all 23) ec_X1_take_1 [(155, [(0, [98]), (1, [2, 26]), (2, [])], [])] 109 = true := by decide +kernel
theorem eq_X2_pass_2 : ef_chk ec_Ks ec_TF ec_TR (mt_all 32) ec_X2_pass_2 [(3, [(0, [55]), (1, [2, 26]), (2, [98])], []), (24, [(0, [55]), (1, [2, 26]), (2, [98])], [])] 84 = true := by decide +kernel
theorem eq_X11_holds_0 : ef_chk ec_Ks ec_TF ec_TR (mt_all 129) ec_X11_holds_0 [(16, [(0, [0]), (1, []), (2, []), (3, []), (4, [])], []), (50, [(0, [0]), (1, []), (2, []), (3, []), (4, [])], [])] 87 = true := by decide +kernel
theorem eq_X11_least_0 : ef_chk ec_Ks ec_TF ec_TR (mt_all 128) ec_X11_least_0 [(33, [(0, [0])], []), (46, [(0, [0])], []), (87, [(0, [0])], []), (130, [(0, [0])], [])] 113 = true := by decide +kernel
theorem eq_X11_dropWithBrace_0 : ef_chk ec_Ks ec_TF ec_TR (mt_all 131) ec_X11_dropWithBrace_0 [] 65 = true := by decide +kernel
theorem eq_X11_way_0 : ef_chk ec_Ks ec_TF ec_TR (mt_all 130) ec_X11_way_0 [(15, [(0, [0])], [])] 61 = true := by decide +kernel
theorem eq_X4_growthNames_0 : ef_chk ec_Ks ec_TF ec_TR (mt_all 54) ec_X4_growthNames_0 [] 55 = true := by decide +kernel
theorem eq_X11_enough_0 : ef_chk ec_Ks ec_TF ec_TR (mt_all 132) ec_X11_enough_0 [(22, [(0, [0])], []), (47, [(0, [0])], [])] 103 = true := by decide +kernel
theorem eq_X11_bears_0 : ef_chk ec_Ks ec_TF ec_TR (mt_all 133) ec_X11_bears_0 [(22, [(0, [0])], []), (72, [(0, [0])], []), (133, [(0, [0])], []), (171, [(0, [0])], [])] 126 = true := by decide +kernel
theorem eq_X4_isLaw_3 : ef_chk ec_Ks ec_TF ec_TR (mt_all 52) ec_X4_isLaw_3 [(28, [(0, [2, 26])], [])] 58 = true := by decide +kernel
theorem eq_X2_see_2 : ef_chk ec_Ks ec_TF ec_TR (mt_all 31) ec_X2_see_2 [] 112 = true := by decide +kernel
theorem eq_X2_workOut_1 : ef_chk ec_Ks ec_TF ec_TR (mt_all 34) ec_X2_workOut_1 [(40, [(0, [55]), (1, [2, 26])], []), (121, [(0, [55]), (1, [2, 26])], []), (220, [(0, [55]), (1, [2, 26])], []), (240, [(0, [55]), (1, [2, 26])], [])] 172 = true := by decide +kernel
theorem eq_X11_knock_0 : ef_chk ec_Ks ec_TF ec_TR (mt_all 134) ec_X11_knock_0 [(29, [(0, [0])], [])] 83 = true := by decide +kernel
theorem eq_X3_add_0 : ef_chk ec_Ks ec_TF ec_TR (mt_all 43) ec_X3_add_0 [(16, [(0, [86]), (1, []), (2, []), (3, []), (4, []), (5, [])], [])] 96 = true := by decide +kernel
theorem eq_X11_measure_0 : ef_chk ec_Ks ec_TF ec_TR (mt_all 135) ec_X11_measure_0 [(27, [(0, [0])], []), (59, [(0, [0])], [])] 78 = true := by decide +kernel
theorem eq_X3_addStrike_0 : ef_chk ec_Ks ec_TF ec_TR (mt_all 44) ec_X3_addStrike_0 [(16, [(0, [86]), (1, [])], [])] 72 = true := by decide +kernel
theorem eq_X11_strike_0 : ef_chk ec_Ks ec_TF ec_TR (mt_all 136) ec_X11_strike_0 [(26, [(0, [0])], [])] 54 = true := by decide +kernel
theorem eq_X11_known_0 : ef_chk ec_Ks ec_TF ec_TR (mt_all 137) ec_X11_known_0 [(16, [(0, [0])], [])] 56 = true := by decide +kernel
theorem eq_X3_knownCount_0 : ef_chk ec_Ks ec_TF ec_TR (mt_all 42) ec_X3_knownCount_0 [] 50 = true := by decide +kernel
theorem eq_X3_findStruck_0 : ef_chk ec_Ks ec_TF ec_TR (mt_all 46) ec_X3_findStruck_0 [(2, [(0, [86])], []), (33, [(0, [86])], []), (78, [(0, [86])], [])] 88 = true := by decide +kernel
theorem eq_X3_pick_0 : ef_chk ec_Ks ec_TF ec_TR (mt_all 45) ec_X3_pick_0 [(13, [(0, [86]), (1, [])], []), (87, [(0, [86]), (1, [])], []), (93, [(0, [86]), (1, [])], [])] 96 = true := by decide +kernel
theorem eq_X4_moreBy_2 : ef_chk ec_Ks ec_TF ec_TR (mt_all 56) ec_X4_moreBy_2 [(5, [(0, [2, 26]), (1, [])], []), (51, [(0, [2, 26]), (1, [])], []), (57, [(0, [2, 26]), (1, [])], [])] 74 = true := by decide +kernel
theorem eq_X1_setCauses_2 : ef_chk ec_Ks ec_TF ec_TR (mt_all 15) ec_X1_setCauses_2 [] 62 = true := by decide +kernel
theorem eq_X1_begin_2 : ef_chk ec_Ks ec_TF ec_TR (mt_all 14) ec_X1_begin_2 [(13, [(0, [97]), (1, [2, 26]), (2, [])], [])] 107 = true := by decide +kernel
theorem eq_X1_leanPart_2 : ef_chk ec_Ks ec_TF ec_TR (mt_all 18) ec_X1_leanPart_2 [] 57 = true := by decide +kernel
theorem eq_X1_hooksPart_2 : ef_chk ec_Ks ec_TF ec_TR (mt_all 19) ec_X1_hooksPart_2 [] 57 = true := by decide +kernel
theorem eq_X1_drop_2 : ef_chk ec_Ks ec_TF ec_TR (mt_all 20) ec_X1_drop_2 [] 52 = true := by decide +kernel
theorem eq_X1_measured_0 : ef_chk ec_Ks ec_TF ec_TR (mt_all 21) ec_X1_measured_0 [] 54 = true := by decide +kernel
theorem eq_X8_record_0 : ef_chk ec_Ks ec_TF ec_TR (mt_all 91) ec_X8_record_0 [(2, [(0, [95]), (1, [])], []), (40, [(0, [95]), (1, [])], [])] 69 = true := by decide +kernel
theorem eq_X1_pull_2 : ef_chk ec_Ks ec_TF ec_TR (mt_all 17) ec_X1_pull_2 [] 74 = true := by decide +kernel
theorem eq_X2_see_3 : ef_chk ec_Ks ec_TF ec_TR (mt_all 31) ec_X2_see_3 [] 112 = true := by decide +kernel
theorem eq_X1_grow_2 : ef_chk ec_Ks ec_TF ec_TR (mt_all 24) ec_X1_grow_2 [] 74 = true := by decide +kernel
theorem eq_X2_pass_3 : ef_chk ec_Ks ec_TF ec_TR (mt_all 32) ec_X2_pass_3 [(3, [(0, [55]), (1, [2, 26]), (2, [97]), (3, [])], []), (24, [(0, [55]), (1, [2, 26]), (2, [97]), (3, [])], [])] 84 = true := by decide +kernel
theorem eq_X1_measured_1 : ef_chk ec_Ks ec_TF ec_TR (mt_all 21) ec_X1_measured_1 [] 54 = true := by decide +kernel
theorem eq_X3_agree_0 : ef_chk ec_Ks ec_TF ec_TR (mt_all 47) ec_X3_agree_0 [(2, [(0, [86]), (1, [97]), (2, [])], []), (84, [(0, [86]), (1, [97]), (2, [])], []), (86, [(0, [86]), (1, [97]), (2, [])], []), (92, [(0, [86]), (1, [97]), (2, [])], [])] 90 = true := by decide +kernel
theorem eq_X8_judge_0 : ef_chk ec_Ks ec_TF ec_TR (mt_all 90) ec_X8_judge_0 [(23, [(0, [95]), (1, [2, 26]), (2, [55]), (3, [86]), (4, [])], []), (79, [(0, [95]), (1, [2, 26]), (2, [55]), (3, [86]), (4, [])], []), (130, [(0, [95]), (1, [2, 26]), (2, [55]), (3, [86]), (4, [])], []), (136, [(0, [95]), (1, [2, 26]), (2, [55]), (3, [86]), (4, [])], [])] 125 = true := by decide +kernel
theorem eq_X11_fits_0 : ef_chk ec_Ks ec_TF ec_TR (mt_all 138) ec_X11_fits_0 [] 61 = true := by decide +kernel
theorem eq_X4_isCause_0 : ef_chk ec_Ks ec_TF ec_TR (mt_all 51) ec_X4_isCause_0 [(22, [(0, [2, 26]), (1, [])], [])] 53 = true := by decide +kernel
theorem eq_X4_weightOf_0 : ef_chk ec_Ks ec_TF ec_TR (mt_all 57) ec_X4_weightOf_0 [] 51 = true := by decide +kernel
theorem eq_X8_weightOfFitting_0 : ef_chk ec_Ks ec_TF ec_TR (mt_all 93) ec_X8_weightOfFitting_0 [(4, [(0, [95]), (1, [2, 26])], [])] 67 = true := by decide +kernel
theorem eq_X11_odds_0 : ef_chk ec_Ks ec_TF ec_TR (mt_all 139) ec_X11_odds_0 [(32, [(0, [0])], [])] 98 = true := by decide +kernel
theorem eq_J6_bitCount_0f7a4_0 : ef_chk ec_Ks ec_TF ec_TR (mt_all 273) ec_J6_bitCount_0f7a4_0 [] 82 = true := by decide +kernel
theorem eq_X8_recorded_0 : ef_chk ec_Ks ec_TF ec_TR (mt_all 92) ec_X8_recorded_0 [(28, [(0, [95]), (1, []), (2, [])], [])] 60 = true := by decide +kernel
theorem eq_X8_heaviestGroup_0 : ef_chk ec_Ks ec_TF ec_TR (mt_all 94) ec_X8_heaviestGroup_0 [(5, [(0, [95]), (1, [2, 26]), (2, [])], []), (20, [(0, [95]), (1, [2, 26]), (2, [])], []), (57, [(0, [95]), (1, [2, 26]), (2, [])], []), (93, [(0, [95]), (1, [2, 26]), (2, [])], [])] 101 = true := by decide +kernel
theorem eq_X11_test_0 : ef_chk ec_Ks ec_TF ec_TR (mt_all 140) ec_X11_test_0 [(17, [(0, [0])], []), (64, [(0, [0])], []), (101, [(0, [0])], [])] 106 = true := by decide +kernel
theorem eq_X11_isAngle_0 : ef_chk ec_Ks ec_TF ec_TR (mt_all 117) ec_X11_isAngle_0 [(14, [(0, [])], [])] 49 = true := by decide +kernel
theorem eq_X1_lowHung_0 : ef_chk ec_Ks ec_TF ec_TR (mt_all 25) ec_X1_lowHung_0 [(17, [(0, [103, 105, 107, 109]), (1, [])], [])] 82 = true := by decide +kernel
theorem eq_X11_low_0 : ef_chk ec_Ks ec_TF ec_TR (mt_all 141) ec_X11_low_0 [(15, [(0, [0])], [])] 56 = true := by decide +kernel
theorem eq_X11_rest_0 : ef_chk ec_Ks ec_TF ec_TR (mt_all 142) ec_X11_rest_0 [(14, [(0, [0])], []), (45, [(0, [0])], [])] 72 = true := by decide +kernel
theorem eq_X1_lowHung_1 : ef_chk ec_Ks ec_TF ec_TR (mt_all 25) ec_X1_lowHung_1 [(17, [(0, [103, 105, 107, 109])], [])] 82 = true := by decide +kernel
theorem eq_X11_shuts_0 : ef_chk ec_Ks ec_TF ec_TR (mt_all 143) ec_X11_shuts_0 [(14, [(0, [0])], [])] 80 = true := by decide +kernel
theorem eq_X1_aboveHung_0 : ef_chk ec_Ks ec_TF ec_TR (mt_all 26) ec_X1_aboveHung_0 [(19, [(0, [103, 105, 107, 109]), (1, [])], [])] 91 = true := by decide +kernel
theorem eq_X11_above_0 : ef_chk ec_Ks ec_TF ec_TR (mt_all 144) ec_X11_above_0 [(15, [(0, [0])], [])] 56 = true := by decide +kernel
theorem eq_X11_opens_0 : ef_chk ec_Ks ec_TF ec_TR (mt_all 145) ec_X11_opens_0 [(13, [(0, [0])], [])] 66 = true := by decide +kernel
theorem eq_X1_lowHung_2 : ef_chk ec_Ks ec_TF ec_TR (mt_all 25) ec_X1_lowHung_2 [(17, [(0, [98])], [])] 82 = true := by decide +kernel
theorem eq_X1_lowHung_3 : ef_chk ec_Ks ec_TF ec_TR (mt_all 25) ec_X1_lowHung_3 [(17, [(0, [98]), (1, [])], [])] 82 = true := by decide +kernel
theorem eq_X1_aboveHung_1 : ef_chk ec_Ks ec_TF ec_TR (mt_all 26) ec_X1_aboveHung_1 [(19, [(0, [98]), (1, [])], [])] 91 = true := by decide +kernel
theorem eq_X1_standsWith_0 : ef_chk ec_Ks ec_TF ec_TR (mt_all 27) ec_X1_standsWith_0 [(13, [(0, [98]), (1, [])], []), (43, [(0, [98]), (1, [])], [])] 74 = true := by decide +kernel
theorem eq_X1_standsWith_1 : ef_chk ec_Ks ec_TF ec_TR (mt_all 27) ec_X1_standsWith_1 [(13, [(0, [98]), (1, []), (2, []), (3, [])], []), (43, [(0, [98]), (1, []), (2, []), (3, [])], [])] 74 = true := by decide +kernel
theorem eq_X11_stand_0 : ef_chk ec_Ks ec_TF ec_TR (mt_all 146) ec_X11_stand_0 [(24, [(0, [0])], []), (43, [(0, [0])], []), (54, [(0, [0])], []), (114, [(0, [0])], []), (136, [(0, [0])], [])] 112 = true := by decide +kernel
theorem eq_X1_isLatched_1 : ef_chk ec_Ks ec_TF ec_TR (mt_all 22) ec_X1_isLatched_1 [(32, [(0, [98])], [])] 58 = true := by decide +kernel
theorem eq_X11_unlatchedWeeks_0 : ef_chk ec_Ks ec_TF ec_TR (mt_all 148) ec_X11_unlatchedWeeks_0 [(29, [(0, [0]), (1, []), (2, []), (3, [])], []), (70, [(0, [0]), (1, []), (2, []), (3, [])], []), (106, [(0, [0]), (1, []), (2, []), (3, [])], [])] 99 = true := by decide +kernel
theorem eq_X9_tell_0 : ef_chk ec_Ks ec_TF ec_TR (mt_all 96) ec_X9_tell_0 [(30, [(0, [99]), (1, []), (2, [])], [])] 59 = true := by decide +kernel
theorem eq_X9_sumOf_0 : ef_chk ec_Ks ec_TF ec_TR (mt_all 98) ec_X9_sumOf_0 [(17, [(0, [99]), (1, []), (2, [])], []), (54, [(0, [99]), (1, []), (2, [])], [])] 101 = true := by decide +kernel
theorem eq_X9_choose_0 : ef_chk ec_Ks ec_TF ec_TR (mt_all 97) ec_X9_choose_0 [(4, [(0, [99])], []), (26, [(0, [99])], []), (62, [(0, [99])], []), (71, [(0, [99])], []), (97, [(0, [99])], [])] 98 = true := by decide +kernel
theorem eq_X9_gateAt_0 : ef_chk ec_Ks ec_TF ec_TR (mt_all 99) ec_X9_gateAt_0 [(18, [(0, [99])], [])] 52 = true := by decide +kernel
theorem eq_X11_first_0 : ef_chk ec_Ks ec_TF ec_TR (mt_all 147) ec_X11_first_0 [(36, [(0, [0])], []), (40, [(0, [0])], []), (54, [(0, [0])], [])] 106 = true := by decide +kernel
theorem eq_X11_wind_0 : ef_chk ec_Ks ec_TF ec_TR (mt_all 149) ec_X11_wind_0 [(15, [(0, [0])], []), (35, [(0, [0])], []), (68, [(0, [0])], []), (80, [(0, [0])], []), (112, [(0, [0])], []), (209, [(0, [0])], [])] 150 = true := by decide +kernel
theorem eq_X1_copy_3 : ef_chk ec_Ks ec_TF ec_TR (mt_all 16) ec_X1_copy_3 [] 109 = true := by decide +kernel
theorem eq_X11_keep_0 : ef_chk ec_Ks ec_TF ec_TR (mt_all 150) ec_X11_keep_0 [(2, [(0, [0])], [])] 63 = true := by decide +kernel
theorem eq_X1_copy_4 : ef_chk ec_Ks ec_TF ec_TR (mt_all 16) ec_X1_copy_4 [] 109 = true := by decide +kernel
theorem eq_X11_back_0 : ef_chk ec_Ks ec_TF ec_TR (mt_all 151) ec_X11_back_0 [(12, [(0, [0])], [])] 72 = true := by decide +kernel
theorem eq_X4_costOf_1 : ef_chk ec_Ks ec_TF ec_TR (mt_all 55) ec_X4_costOf_1 [(4, [(0, [2, 26])], []), (35, [(0, [2, 26])], []), (41, [(0, [2, 26])], [])] 68 = true := by decide +kernel
theorem eq_X11_costOfAllDone_0 : ef_chk ec_Ks ec_TF ec_TR (mt_all 153) ec_X11_costOfAllDone_0 [(4, [(0, [0])], []), (49, [(0, [0])], [])] 69 = true := by decide +kernel
theorem eq_X11_count_0 : ef_chk ec_Ks ec_TF ec_TR (mt_all 152) ec_X11_count_0 [] 78 = true := by decide +kernel
end
section
/-! ===== all checks by cells ===== -/
theorem ef_runE {Ks : List ef_K} {TF : ef_T} {TR : ef_U} {mt : Nat → cv_M} {F : cv_F} (hc : ∀ K, K ∈ Ks → ∃ cs n, ef_chk Ks TF TR (mt K.1) K cs n = true) (h9 : ∀ j, ef_nk j ≠ none → (mt j).2.1 = []) : ∀ N, ef_Aa F mt Ks TF TR N := by
  have hch : ∀ K, ∃ x : List ef_G × Nat, K ∈ Ks → ef_chk Ks TF TR (mt K.1) K x.1 x.2 = true := fun K => by
    by_cases h : K ∈ Ks
    · obtain ⟨cs, n, q⟩ := hc K h
      exact ⟨(cs, n), fun _ => q⟩
    · exact ⟨([], 0), fun q => absurd q h⟩
  exact ef_run (css := fun K => Classical.choose (hch K)) (fun K hK => Classical.choose_spec (hch K) hK) h9
set_option maxRecDepth 100000 in
theorem ec_all : ∀ K, K ∈ ec_Ks → ∃ cs n, ef_chk ec_Ks ec_TF ec_TR (mt_all K.1) K cs n = true := by
  intro K hK
  unfold ec_Ks at hK
  rcases List.mem_cons.mp hK with rfl | hK
  · exact ⟨_, _, eq_X7_setHeight_0⟩
  rcases List.mem_cons.mp hK with rfl | hK
  · exact ⟨_, _, eq_X7_clear_0⟩
  rcases List.mem_cons.mp hK with rfl | hK
  · exact ⟨_, _, eq_X4_clear_0⟩
  rcases List.mem_cons.mp hK with rfl | hK
  · exact ⟨_, _, eq_X6_letterBits_0⟩
  rcases List.mem_cons.mp hK with rfl | hK
  · exact ⟨_, _, eq_X6_readLetters_0⟩
  rcases List.mem_cons.mp hK with rfl | hK
  · exact ⟨_, _, eq_X6_readDigits_0⟩
  rcases List.mem_cons.mp hK with rfl | hK
  · exact ⟨_, _, eq_X6_takes_0⟩
  rcases List.mem_cons.mp hK with rfl | hK
  · exact ⟨_, _, eq_X6_readSign_0⟩
  rcases List.mem_cons.mp hK with rfl | hK
  · exact ⟨_, _, eq_X6_step_0⟩
  rcases List.mem_cons.mp hK with rfl | hK
  · exact ⟨_, _, eq_X6_begin_0⟩
  rcases List.mem_cons.mp hK with rfl | hK
  · exact ⟨_, _, eq_X11_placeOf_0⟩
  rcases List.mem_cons.mp hK with rfl | hK
  · exact ⟨_, _, eq_X5_fail_0⟩
  rcases List.mem_cons.mp hK with rfl | hK
  · exact ⟨_, _, eq_X5_readNewName_0⟩
  rcases List.mem_cons.mp hK with rfl | hK
  · exact ⟨_, _, eq_X5_readNumber_0⟩
  rcases List.mem_cons.mp hK with rfl | hK
  · exact ⟨_, _, eq_X6_isWordFrom_0⟩
  rcases List.mem_cons.mp hK with rfl | hK
  · exact ⟨_, _, eq_X5_readCause_0⟩
  rcases List.mem_cons.mp hK with rfl | hK
  · exact ⟨_, _, eq_X5_readSemicolon_0⟩
  rcases List.mem_cons.mp hK with rfl | hK
  · exact ⟨_, _, eq_X11_placeOf_1⟩
  rcases List.mem_cons.mp hK with rfl | hK
  · exact ⟨_, _, eq_X5_readNewName_1⟩
  rcases List.mem_cons.mp hK with rfl | hK
  · exact ⟨_, _, eq_X5_kindOf_0⟩
  rcases List.mem_cons.mp hK with rfl | hK
  · exact ⟨_, _, eq_X5_mostOf_0⟩
  rcases List.mem_cons.mp hK with rfl | hK
  · exact ⟨_, _, eq_X5_readNumber_1⟩
  rcases List.mem_cons.mp hK with rfl | hK
  · exact ⟨_, _, eq_X5_readWork_0⟩
  rcases List.mem_cons.mp hK with rfl | hK
  · exact ⟨_, _, eq_X11_placeOf_2⟩
  rcases List.mem_cons.mp hK with rfl | hK
  · exact ⟨_, _, eq_X5_readNewName_2⟩
  rcases List.mem_cons.mp hK with rfl | hK
  · exact ⟨_, _, eq_X5_readBrace_0⟩
  rcases List.mem_cons.mp hK with rfl | hK
  · exact ⟨_, _, eq_X11_placeOf_3⟩
  rcases List.mem_cons.mp hK with rfl | hK
  · exact ⟨_, _, eq_X5_readHas_0⟩
  rcases List.mem_cons.mp hK with rfl | hK
  · exact ⟨_, _, eq_X5_readPart_0⟩
  rcases List.mem_cons.mp hK with rfl | hK
  · exact ⟨_, _, eq_X5_readGate_0⟩
  rcases List.mem_cons.mp hK with rfl | hK
  · exact ⟨_, _, eq_X4_isLaw_0⟩
  rcases List.mem_cons.mp hK with rfl | hK
  · exact ⟨_, _, eq_X6_isWord_0⟩
  rcases List.mem_cons.mp hK with rfl | hK
  · exact ⟨_, _, eq_X0_signOf_0⟩
  rcases List.mem_cons.mp hK with rfl | hK
  · exact ⟨_, _, eq_X0_latestHeld_0⟩
  rcases List.mem_cons.mp hK with rfl | hK
  · exact ⟨_, _, eq_X0_rankOf_0⟩
  rcases List.mem_cons.mp hK with rfl | hK
  · exact ⟨_, _, eq_X4_addCode_0⟩
  rcases List.mem_cons.mp hK with rfl | hK
  · exact ⟨_, _, eq_X0_release_0⟩
  rcases List.mem_cons.mp hK with rfl | hK
  · exact ⟨_, _, eq_X0_hold_0⟩
  rcases List.mem_cons.mp hK with rfl | hK
  · exact ⟨_, _, eq_X0_openParen_0⟩
  rcases List.mem_cons.mp hK with rfl | hK
  · exact ⟨_, _, eq_X0_hold_1⟩
  rcases List.mem_cons.mp hK with rfl | hK
  · exact ⟨_, _, eq_X0_holdKnot_0⟩
  rcases List.mem_cons.mp hK with rfl | hK
  · exact ⟨_, _, eq_X0_nameOf_0⟩
  rcases List.mem_cons.mp hK with rfl | hK
  · exact ⟨_, _, eq_X0_valueKnot_0⟩
  rcases List.mem_cons.mp hK with rfl | hK
  · exact ⟨_, _, eq_X4_addCode_1⟩
  rcases List.mem_cons.mp hK with rfl | hK
  · exact ⟨_, _, eq_X0_readValue_0⟩
  rcases List.mem_cons.mp hK with rfl | hK
  · exact ⟨_, _, eq_X0_rankOf_1⟩
  rcases List.mem_cons.mp hK with rfl | hK
  · exact ⟨_, _, eq_X0_holdKnot_1⟩
  rcases List.mem_cons.mp hK with rfl | hK
  · exact ⟨_, _, eq_X0_readJoint_0⟩
  rcases List.mem_cons.mp hK with rfl | hK
  · exact ⟨_, _, eq_X0_readInto_0⟩
  rcases List.mem_cons.mp hK with rfl | hK
  · exact ⟨_, _, eq_X5_fail_1⟩
  rcases List.mem_cons.mp hK with rfl | hK
  · exact ⟨_, _, eq_X5_readLaw_0⟩
  rcases List.mem_cons.mp hK with rfl | hK
  · exact ⟨_, _, eq_X5_readGround_0⟩
  rcases List.mem_cons.mp hK with rfl | hK
  · exact ⟨_, _, eq_X5_readText_0⟩
  rcases List.mem_cons.mp hK with rfl | hK
  · exact ⟨_, _, eq_X2_forget_0⟩
  rcases List.mem_cons.mp hK with rfl | hK
  · exact ⟨_, _, eq_X4_moreBy_0⟩
  rcases List.mem_cons.mp hK with rfl | hK
  · exact ⟨_, _, eq_X1_setCauses_0⟩
  rcases List.mem_cons.mp hK with rfl | hK
  · exact ⟨_, _, eq_X1_begin_0⟩
  rcases List.mem_cons.mp hK with rfl | hK
  · exact ⟨_, _, eq_X10_clear_0⟩
  rcases List.mem_cons.mp hK with rfl | hK
  · exact ⟨_, _, eq_X3_clear_0⟩
  rcases List.mem_cons.mp hK with rfl | hK
  · exact ⟨_, _, eq_X11_takeSpare_0⟩
  rcases List.mem_cons.mp hK with rfl | hK
  · exact ⟨_, _, eq_X11_text_0⟩
  rcases List.mem_cons.mp hK with rfl | hK
  · exact ⟨_, _, eq_X7_setHeight_1⟩
  rcases List.mem_cons.mp hK with rfl | hK
  · exact ⟨_, _, eq_X7_clear_1⟩
  rcases List.mem_cons.mp hK with rfl | hK
  · exact ⟨_, _, eq_X4_clear_1⟩
  rcases List.mem_cons.mp hK with rfl | hK
  · exact ⟨_, _, eq_X11_placeOf_4⟩
  rcases List.mem_cons.mp hK with rfl | hK
  · exact ⟨_, _, eq_X5_fail_2⟩
  rcases List.mem_cons.mp hK with rfl | hK
  · exact ⟨_, _, eq_X5_readNewName_3⟩
  rcases List.mem_cons.mp hK with rfl | hK
  · exact ⟨_, _, eq_X5_readNumber_2⟩
  rcases List.mem_cons.mp hK with rfl | hK
  · exact ⟨_, _, eq_X5_readCause_1⟩
  rcases List.mem_cons.mp hK with rfl | hK
  · exact ⟨_, _, eq_X5_readSemicolon_1⟩
  rcases List.mem_cons.mp hK with rfl | hK
  · exact ⟨_, _, eq_X11_placeOf_5⟩
  rcases List.mem_cons.mp hK with rfl | hK
  · exact ⟨_, _, eq_X5_readNewName_4⟩
  rcases List.mem_cons.mp hK with rfl | hK
  · exact ⟨_, _, eq_X5_kindOf_1⟩
  rcases List.mem_cons.mp hK with rfl | hK
  · exact ⟨_, _, eq_X5_mostOf_1⟩
  rcases List.mem_cons.mp hK with rfl | hK
  · exact ⟨_, _, eq_X5_readNumber_3⟩
  rcases List.mem_cons.mp hK with rfl | hK
  · exact ⟨_, _, eq_X5_readWork_1⟩
  rcases List.mem_cons.mp hK with rfl | hK
  · exact ⟨_, _, eq_X11_placeOf_6⟩
  rcases List.mem_cons.mp hK with rfl | hK
  · exact ⟨_, _, eq_X5_readNewName_5⟩
  rcases List.mem_cons.mp hK with rfl | hK
  · exact ⟨_, _, eq_X5_readBrace_1⟩
  rcases List.mem_cons.mp hK with rfl | hK
  · exact ⟨_, _, eq_X11_placeOf_7⟩
  rcases List.mem_cons.mp hK with rfl | hK
  · exact ⟨_, _, eq_X5_readHas_1⟩
  rcases List.mem_cons.mp hK with rfl | hK
  · exact ⟨_, _, eq_X5_readPart_1⟩
  rcases List.mem_cons.mp hK with rfl | hK
  · exact ⟨_, _, eq_X5_readGate_1⟩
  rcases List.mem_cons.mp hK with rfl | hK
  · exact ⟨_, _, eq_X4_isLaw_1⟩
  rcases List.mem_cons.mp hK with rfl | hK
  · exact ⟨_, _, eq_X0_signOf_1⟩
  rcases List.mem_cons.mp hK with rfl | hK
  · exact ⟨_, _, eq_X0_latestHeld_1⟩
  rcases List.mem_cons.mp hK with rfl | hK
  · exact ⟨_, _, eq_X0_rankOf_2⟩
  rcases List.mem_cons.mp hK with rfl | hK
  · exact ⟨_, _, eq_X4_addCode_2⟩
  rcases List.mem_cons.mp hK with rfl | hK
  · exact ⟨_, _, eq_X0_release_1⟩
  rcases List.mem_cons.mp hK with rfl | hK
  · exact ⟨_, _, eq_X0_hold_2⟩
  rcases List.mem_cons.mp hK with rfl | hK
  · exact ⟨_, _, eq_X0_openParen_1⟩
  rcases List.mem_cons.mp hK with rfl | hK
  · exact ⟨_, _, eq_X0_hold_3⟩
  rcases List.mem_cons.mp hK with rfl | hK
  · exact ⟨_, _, eq_X0_holdKnot_2⟩
  rcases List.mem_cons.mp hK with rfl | hK
  · exact ⟨_, _, eq_X0_nameOf_1⟩
  rcases List.mem_cons.mp hK with rfl | hK
  · exact ⟨_, _, eq_X0_valueKnot_1⟩
  rcases List.mem_cons.mp hK with rfl | hK
  · exact ⟨_, _, eq_X4_addCode_3⟩
  rcases List.mem_cons.mp hK with rfl | hK
  · exact ⟨_, _, eq_X0_readValue_1⟩
  rcases List.mem_cons.mp hK with rfl | hK
  · exact ⟨_, _, eq_X0_rankOf_3⟩
  rcases List.mem_cons.mp hK with rfl | hK
  · exact ⟨_, _, eq_X0_holdKnot_3⟩
  rcases List.mem_cons.mp hK with rfl | hK
  · exact ⟨_, _, eq_X0_readJoint_1⟩
  rcases List.mem_cons.mp hK with rfl | hK
  · exact ⟨_, _, eq_X0_readInto_1⟩
  rcases List.mem_cons.mp hK with rfl | hK
  · exact ⟨_, _, eq_X5_fail_3⟩
  rcases List.mem_cons.mp hK with rfl | hK
  · exact ⟨_, _, eq_X5_readLaw_1⟩
  rcases List.mem_cons.mp hK with rfl | hK
  · exact ⟨_, _, eq_X5_readGround_1⟩
  rcases List.mem_cons.mp hK with rfl | hK
  · exact ⟨_, _, eq_X5_readText_1⟩
  rcases List.mem_cons.mp hK with rfl | hK
  · exact ⟨_, _, eq_X4_moreBy_1⟩
  rcases List.mem_cons.mp hK with rfl | hK
  · exact ⟨_, _, eq_X1_setCauses_1⟩
  rcases List.mem_cons.mp hK with rfl | hK
  · exact ⟨_, _, eq_X1_begin_1⟩
  rcases List.mem_cons.mp hK with rfl | hK
  · exact ⟨_, _, eq_X11_takeSpare_1⟩
  rcases List.mem_cons.mp hK with rfl | hK
  · exact ⟨_, _, eq_X11_text_1⟩
  rcases List.mem_cons.mp hK with rfl | hK
  · exact ⟨_, _, eq_X11_fault_0⟩
  rcases List.mem_cons.mp hK with rfl | hK
  · exact ⟨_, _, eq_X11_placeOf_8⟩
  rcases List.mem_cons.mp hK with rfl | hK
  · exact ⟨_, _, eq_X11_placeOf_9⟩
  rcases List.mem_cons.mp hK with rfl | hK
  · exact ⟨_, _, eq_X11_placeOf_10⟩
  rcases List.mem_cons.mp hK with rfl | hK
  · exact ⟨_, _, eq_X11_named_0⟩
  rcases List.mem_cons.mp hK with rfl | hK
  · exact ⟨_, _, eq_X4_isWork_0⟩
  rcases List.mem_cons.mp hK with rfl | hK
  · exact ⟨_, _, eq_X11_works_0⟩
  rcases List.mem_cons.mp hK with rfl | hK
  · exact ⟨_, _, eq_X11_isWeek_0⟩
  rcases List.mem_cons.mp hK with rfl | hK
  · exact ⟨_, _, eq_X4_firmIn_0⟩
  rcases List.mem_cons.mp hK with rfl | hK
  · exact ⟨_, _, eq_X11_firm_0⟩
  rcases List.mem_cons.mp hK with rfl | hK
  · exact ⟨_, _, eq_X11_isAhead_0⟩
  rcases List.mem_cons.mp hK with rfl | hK
  · exact ⟨_, _, eq_X7_span_0⟩
  rcases List.mem_cons.mp hK with rfl | hK
  · exact ⟨_, _, eq_X1_pull_0⟩
  rcases List.mem_cons.mp hK with rfl | hK
  · exact ⟨_, _, eq_X2_put_0⟩
  rcases List.mem_cons.mp hK with rfl | hK
  · exact ⟨_, _, eq_X1_leanPart_0⟩
  rcases List.mem_cons.mp hK with rfl | hK
  · exact ⟨_, _, eq_X1_hooksPart_0⟩
  rcases List.mem_cons.mp hK with rfl | hK
  · exact ⟨_, _, eq_X1_drop_0⟩
  rcases List.mem_cons.mp hK with rfl | hK
  · exact ⟨_, _, eq_X2_see_0⟩
  rcases List.mem_cons.mp hK with rfl | hK
  · exact ⟨_, _, eq_X4_isLaw_2⟩
  rcases List.mem_cons.mp hK with rfl | hK
  · exact ⟨_, _, eq_X2_valueOf_0⟩
  rcases List.mem_cons.mp hK with rfl | hK
  · exact ⟨_, _, eq_X2_times_0⟩
  rcases List.mem_cons.mp hK with rfl | hK
  · exact ⟨_, _, eq_X2_bounded_0⟩
  rcases List.mem_cons.mp hK with rfl | hK
  · exact ⟨_, _, eq_X2_by_0⟩
  rcases List.mem_cons.mp hK with rfl | hK
  · exact ⟨_, _, eq_X2_join_0⟩
  rcases List.mem_cons.mp hK with rfl | hK
  · exact ⟨_, _, eq_X2_workOut_0⟩
  rcases List.mem_cons.mp hK with rfl | hK
  · exact ⟨_, _, eq_X2_refresh_0⟩
  rcases List.mem_cons.mp hK with rfl | hK
  · exact ⟨_, _, eq_X1_grow_0⟩
  rcases List.mem_cons.mp hK with rfl | hK
  · exact ⟨_, _, eq_X2_pass_0⟩
  rcases List.mem_cons.mp hK with rfl | hK
  · exact ⟨_, _, eq_X11_weeks_0⟩
  rcases List.mem_cons.mp hK with rfl | hK
  · exact ⟨_, _, eq_X11_isGate_0⟩
  rcases List.mem_cons.mp hK with rfl | hK
  · exact ⟨_, _, eq_X11_sags_0⟩
  rcases List.mem_cons.mp hK with rfl | hK
  · exact ⟨_, _, eq_X1_isLatched_0⟩
  rcases List.mem_cons.mp hK with rfl | hK
  · exact ⟨_, _, eq_X11_latched_0⟩
  rcases List.mem_cons.mp hK with rfl | hK
  · exact ⟨_, _, eq_X11_gives_0⟩
  rcases List.mem_cons.mp hK with rfl | hK
  · exact ⟨_, _, eq_X10_dropEarliest_0⟩
  rcases List.mem_cons.mp hK with rfl | hK
  · exact ⟨_, _, eq_X1_copy_0⟩
  rcases List.mem_cons.mp hK with rfl | hK
  · exact ⟨_, _, eq_X10_push_0⟩
  rcases List.mem_cons.mp hK with rfl | hK
  · exact ⟨_, _, eq_X1_take_0⟩
  rcases List.mem_cons.mp hK with rfl | hK
  · exact ⟨_, _, eq_X11_work_0⟩
  rcases List.mem_cons.mp hK with rfl | hK
  · exact ⟨_, _, eq_X10_latestGate_0⟩
  rcases List.mem_cons.mp hK with rfl | hK
  · exact ⟨_, _, eq_X1_copy_1⟩
  rcases List.mem_cons.mp hK with rfl | hK
  · exact ⟨_, _, eq_X10_popInto_0⟩
  rcases List.mem_cons.mp hK with rfl | hK
  · exact ⟨_, _, eq_X11_undo_0⟩
  rcases List.mem_cons.mp hK with rfl | hK
  · exact ⟨_, _, eq_X11_isBound_0⟩
  rcases List.mem_cons.mp hK with rfl | hK
  · exact ⟨_, _, eq_X1_copy_2⟩
  rcases List.mem_cons.mp hK with rfl | hK
  · exact ⟨_, _, eq_X1_pull_1⟩
  rcases List.mem_cons.mp hK with rfl | hK
  · exact ⟨_, _, eq_X1_leanPart_1⟩
  rcases List.mem_cons.mp hK with rfl | hK
  · exact ⟨_, _, eq_X1_hooksPart_1⟩
  rcases List.mem_cons.mp hK with rfl | hK
  · exact ⟨_, _, eq_X1_drop_1⟩
  rcases List.mem_cons.mp hK with rfl | hK
  · exact ⟨_, _, eq_X2_see_1⟩
  rcases List.mem_cons.mp hK with rfl | hK
  · exact ⟨_, _, eq_X1_grow_1⟩
  rcases List.mem_cons.mp hK with rfl | hK
  · exact ⟨_, _, eq_X2_pass_1⟩
  rcases List.mem_cons.mp hK with rfl | hK
  · exact ⟨_, _, eq_X11_lasts_0⟩
  rcases List.mem_cons.mp hK with rfl | hK
  · exact ⟨_, _, eq_X4_costOf_0⟩
  rcases List.mem_cons.mp hK with rfl | hK
  · exact ⟨_, _, eq_X1_take_1⟩
  rcases List.mem_cons.mp hK with rfl | hK
  · exact ⟨_, _, eq_X2_pass_2⟩
  rcases List.mem_cons.mp hK with rfl | hK
  · exact ⟨_, _, eq_X11_holds_0⟩
  rcases List.mem_cons.mp hK with rfl | hK
  · exact ⟨_, _, eq_X11_least_0⟩
  rcases List.mem_cons.mp hK with rfl | hK
  · exact ⟨_, _, eq_X11_dropWithBrace_0⟩
  rcases List.mem_cons.mp hK with rfl | hK
  · exact ⟨_, _, eq_X11_way_0⟩
  rcases List.mem_cons.mp hK with rfl | hK
  · exact ⟨_, _, eq_X4_growthNames_0⟩
  rcases List.mem_cons.mp hK with rfl | hK
  · exact ⟨_, _, eq_X11_enough_0⟩
  rcases List.mem_cons.mp hK with rfl | hK
  · exact ⟨_, _, eq_X11_bears_0⟩
  rcases List.mem_cons.mp hK with rfl | hK
  · exact ⟨_, _, eq_X4_isLaw_3⟩
  rcases List.mem_cons.mp hK with rfl | hK
  · exact ⟨_, _, eq_X2_see_2⟩
  rcases List.mem_cons.mp hK with rfl | hK
  · exact ⟨_, _, eq_X2_workOut_1⟩
  rcases List.mem_cons.mp hK with rfl | hK
  · exact ⟨_, _, eq_X11_knock_0⟩
  rcases List.mem_cons.mp hK with rfl | hK
  · exact ⟨_, _, eq_X3_add_0⟩
  rcases List.mem_cons.mp hK with rfl | hK
  · exact ⟨_, _, eq_X11_measure_0⟩
  rcases List.mem_cons.mp hK with rfl | hK
  · exact ⟨_, _, eq_X3_addStrike_0⟩
  rcases List.mem_cons.mp hK with rfl | hK
  · exact ⟨_, _, eq_X11_strike_0⟩
  rcases List.mem_cons.mp hK with rfl | hK
  · exact ⟨_, _, eq_X11_known_0⟩
  rcases List.mem_cons.mp hK with rfl | hK
  · exact ⟨_, _, eq_X3_knownCount_0⟩
  rcases List.mem_cons.mp hK with rfl | hK
  · exact ⟨_, _, eq_X3_findStruck_0⟩
  rcases List.mem_cons.mp hK with rfl | hK
  · exact ⟨_, _, eq_X3_pick_0⟩
  rcases List.mem_cons.mp hK with rfl | hK
  · exact ⟨_, _, eq_X4_moreBy_2⟩
  rcases List.mem_cons.mp hK with rfl | hK
  · exact ⟨_, _, eq_X1_setCauses_2⟩
  rcases List.mem_cons.mp hK with rfl | hK
  · exact ⟨_, _, eq_X1_begin_2⟩
  rcases List.mem_cons.mp hK with rfl | hK
  · exact ⟨_, _, eq_X1_leanPart_2⟩
  rcases List.mem_cons.mp hK with rfl | hK
  · exact ⟨_, _, eq_X1_hooksPart_2⟩
  rcases List.mem_cons.mp hK with rfl | hK
  · exact ⟨_, _, eq_X1_drop_2⟩
  rcases List.mem_cons.mp hK with rfl | hK
  · exact ⟨_, _, eq_X1_measured_0⟩
  rcases List.mem_cons.mp hK with rfl | hK
  · exact ⟨_, _, eq_X8_record_0⟩
  rcases List.mem_cons.mp hK with rfl | hK
  · exact ⟨_, _, eq_X1_pull_2⟩
  rcases List.mem_cons.mp hK with rfl | hK
  · exact ⟨_, _, eq_X2_see_3⟩
  rcases List.mem_cons.mp hK with rfl | hK
  · exact ⟨_, _, eq_X1_grow_2⟩
  rcases List.mem_cons.mp hK with rfl | hK
  · exact ⟨_, _, eq_X2_pass_3⟩
  rcases List.mem_cons.mp hK with rfl | hK
  · exact ⟨_, _, eq_X1_measured_1⟩
  rcases List.mem_cons.mp hK with rfl | hK
  · exact ⟨_, _, eq_X3_agree_0⟩
  rcases List.mem_cons.mp hK with rfl | hK
  · exact ⟨_, _, eq_X8_judge_0⟩
  rcases List.mem_cons.mp hK with rfl | hK
  · exact ⟨_, _, eq_X11_fits_0⟩
  rcases List.mem_cons.mp hK with rfl | hK
  · exact ⟨_, _, eq_X4_isCause_0⟩
  rcases List.mem_cons.mp hK with rfl | hK
  · exact ⟨_, _, eq_X4_weightOf_0⟩
  rcases List.mem_cons.mp hK with rfl | hK
  · exact ⟨_, _, eq_X8_weightOfFitting_0⟩
  rcases List.mem_cons.mp hK with rfl | hK
  · exact ⟨_, _, eq_X11_odds_0⟩
  rcases List.mem_cons.mp hK with rfl | hK
  · exact ⟨_, _, eq_J6_bitCount_0f7a4_0⟩
  rcases List.mem_cons.mp hK with rfl | hK
  · exact ⟨_, _, eq_X8_recorded_0⟩
  rcases List.mem_cons.mp hK with rfl | hK
  · exact ⟨_, _, eq_X8_heaviestGroup_0⟩
  rcases List.mem_cons.mp hK with rfl | hK
  · exact ⟨_, _, eq_X11_test_0⟩
  rcases List.mem_cons.mp hK with rfl | hK
  · exact ⟨_, _, eq_X11_isAngle_0⟩
  rcases List.mem_cons.mp hK with rfl | hK
  · exact ⟨_, _, eq_X1_lowHung_0⟩
  rcases List.mem_cons.mp hK with rfl | hK
  · exact ⟨_, _, eq_X11_low_0⟩
  rcases List.mem_cons.mp hK with rfl | hK
  · exact ⟨_, _, eq_X11_rest_0⟩
  rcases List.mem_cons.mp hK with rfl | hK
  · exact ⟨_, _, eq_X1_lowHung_1⟩
  rcases List.mem_cons.mp hK with rfl | hK
  · exact ⟨_, _, eq_X11_shuts_0⟩
  rcases List.mem_cons.mp hK with rfl | hK
  · exact ⟨_, _, eq_X1_aboveHung_0⟩
  rcases List.mem_cons.mp hK with rfl | hK
  · exact ⟨_, _, eq_X11_above_0⟩
  rcases List.mem_cons.mp hK with rfl | hK
  · exact ⟨_, _, eq_X11_opens_0⟩
  rcases List.mem_cons.mp hK with rfl | hK
  · exact ⟨_, _, eq_X1_lowHung_2⟩
  rcases List.mem_cons.mp hK with rfl | hK
  · exact ⟨_, _, eq_X1_lowHung_3⟩
  rcases List.mem_cons.mp hK with rfl | hK
  · exact ⟨_, _, eq_X1_aboveHung_1⟩
  rcases List.mem_cons.mp hK with rfl | hK
  · exact ⟨_, _, eq_X1_standsWith_0⟩
  rcases List.mem_cons.mp hK with rfl | hK
  · exact ⟨_, _, eq_X1_standsWith_1⟩
  rcases List.mem_cons.mp hK with rfl | hK
  · exact ⟨_, _, eq_X11_stand_0⟩
  rcases List.mem_cons.mp hK with rfl | hK
  · exact ⟨_, _, eq_X1_isLatched_1⟩
  rcases List.mem_cons.mp hK with rfl | hK
  · exact ⟨_, _, eq_X11_unlatchedWeeks_0⟩
  rcases List.mem_cons.mp hK with rfl | hK
  · exact ⟨_, _, eq_X9_tell_0⟩
  rcases List.mem_cons.mp hK with rfl | hK
  · exact ⟨_, _, eq_X9_sumOf_0⟩
  rcases List.mem_cons.mp hK with rfl | hK
  · exact ⟨_, _, eq_X9_choose_0⟩
  rcases List.mem_cons.mp hK with rfl | hK
  · exact ⟨_, _, eq_X9_gateAt_0⟩
  rcases List.mem_cons.mp hK with rfl | hK
  · exact ⟨_, _, eq_X11_first_0⟩
  rcases List.mem_cons.mp hK with rfl | hK
  · exact ⟨_, _, eq_X11_wind_0⟩
  rcases List.mem_cons.mp hK with rfl | hK
  · exact ⟨_, _, eq_X1_copy_3⟩
  rcases List.mem_cons.mp hK with rfl | hK
  · exact ⟨_, _, eq_X11_keep_0⟩
  rcases List.mem_cons.mp hK with rfl | hK
  · exact ⟨_, _, eq_X1_copy_4⟩
  rcases List.mem_cons.mp hK with rfl | hK
  · exact ⟨_, _, eq_X11_back_0⟩
  rcases List.mem_cons.mp hK with rfl | hK
  · exact ⟨_, _, eq_X4_costOf_1⟩
  rcases List.mem_cons.mp hK with rfl | hK
  · exact ⟨_, _, eq_X11_costOfAllDone_0⟩
  rcases List.mem_cons.mp hK with rfl | hK
  · exact ⟨_, _, eq_X11_count_0⟩
  cases hK
theorem ec_run : ∀ N, ef_Aa fk_all mt_all ec_Ks ec_TF ec_TR N := ef_runE ec_all ef_h9
end
section
/-! ===== long numbers in slots and on the stack ===== -/
def rl_v (o : Option cv_V) : Int := match o with
  | some (.inr (.inl x)) => x.toInt
  | _ => 0
def rl_at (h : cv_H) (k i : Nat) : Int := rl_v (cw_at h k i)
theorem rl_of {h : cv_H} {k i : Nat} {x : Int64} (e : cw_at h k i = some (cv_l x)) : rl_at h k i = x.toInt := by unfold rl_at; rw [e]; rfl
theorem rl_eq {h h' : cv_H} {k i : Nat} (e : cw_at h' k i = cw_at h k i) : rl_at h' k i = rl_at h k i := by unfold rl_at; rw [e]
theorem rl_ne {h h' : cv_H} {k i k' i' : Nat} {v : cv_V} (w : cw_Wr h h' k i v) (q : k' ≠ k ∨ i' ≠ i) : rl_at h' k' i' = rl_at h k' i' := rl_eq (w.2.1 k' i' q)
theorem rl_self {h h' : cv_H} {k i : Nat} {x : Int64} (w : cw_Wr h h' k i (cv_l x)) : rl_at h' k i = x.toInt := rl_of w.1
theorem lg_cmp_i (x y : Int64) : ((lg_cmp x y).toInt = -1 ∧ x.toInt < y.toInt) ∨ ((lg_cmp x y).toInt = 0 ∧ x.toInt = y.toInt) ∨ ((lg_cmp x y).toInt = 1 ∧ y.toInt < x.toInt) := by
  unfold lg_cmp
  by_cases q1 : x > y
  · rw [if_pos q1]
    exact .inr (.inr ⟨rfl, Int64.lt_iff_toInt_lt.mp q1⟩)
  · rw [if_neg q1]
    have h1 : ¬ y.toInt < x.toInt := fun q => q1 (Int64.lt_iff_toInt_lt.mpr q)
    by_cases q2 : x = y
    · rw [if_pos q2, q2]
      exact .inr (.inl ⟨rfl, rfl⟩)
    · rw [if_neg q2]
      have h2 : ¬ x.toInt = y.toInt := fun q => q2 (Int64.toInt_inj.mp q)
      exact .inl ⟨rfl, by omega⟩
section NL
variable {X : cv_X} {mi : Nat} {Q : cv_O → Prop} {pc len a b : Nat} {z : Int} {L : cv_L} {st : List cv_V} {h : cv_H} {G : Int}
theorem ex_laV {k d m j : Nat} {i : Int32} (ho : cw_ho mi pc .laload len a b z) (hT : cw_T G h) (hk : cw_sh[k]? = some d) (hD : cw_Ds[d]? = some (.inr (.inl m))) (hj : i.toInt = j) (hm : j < m) (kk : ∀ x : Int64, rl_at h k j = x.toInt → cw_X X mi Q (pc + len) L (cv_l x :: st) h) : cw_X X mi Q pc L (cv_i i :: cv_r k :: st) h := ex_la ho hT hk hD hj hm (fun x e => kk x (rl_of e))
theorem ex_ldc2V {ix : Nat} {m : Int} (ho : cw_ho mi pc (.ldc2_w ix) len a b z) (hm : (Int64.ofInt z).toInt = m) (k : ∀ x : Int64, x.toInt = m → cw_X X mi Q (pc + len) L (cv_l x :: st) h) : cw_X X mi Q pc L st h := ex_ldc2 ho (fun x e => k x (by rw [e, hm]))
theorem ex_lcmpV {x y : Int64} (ho : cw_ho mi pc .lcmp len a b z) (k : ∀ r : Int32, ((r.toInt = -1 ∧ x.toInt < y.toInt) ∨ (r.toInt = 0 ∧ x.toInt = y.toInt) ∨ (r.toInt = 1 ∧ y.toInt < x.toInt)) → cw_X X mi Q (pc + len) L (cv_i r :: st) h) : cw_X X mi Q pc L (cv_l y :: cv_l x :: st) h := ex_lcmp ho (fun r e => k r (by rw [e]; exact lg_cmp_i x y))
theorem ex_laddV {x y : Int64} (ho : cw_ho mi pc .ladd len a b z) (hr : -9223372036854775808 ≤ x.toInt + y.toInt ∧ x.toInt + y.toInt ≤ 9223372036854775807) (k : ∀ r : Int64, r.toInt = x.toInt + y.toInt → cw_X X mi Q (pc + len) L (cv_l r :: st) h) : cw_X X mi Q pc L (cv_l y :: cv_l x :: st) h :=
  ex_one ho rfl (k (x + y) (by rw [Int64.toInt_add, cw_bmL hr.1 hr.2]))
theorem ex_lsubV {x y : Int64} (ho : cw_ho mi pc .lsub len a b z) (hr : -9223372036854775808 ≤ x.toInt - y.toInt ∧ x.toInt - y.toInt ≤ 9223372036854775807) (k : ∀ r : Int64, r.toInt = x.toInt - y.toInt → cw_X X mi Q (pc + len) L (cv_l r :: st) h) : cw_X X mi Q pc L (cv_l y :: cv_l x :: st) h :=
  ex_one ho rfl (k (x - y) (by rw [Int64.toInt_sub, cw_bmL hr.1 hr.2]))
theorem ex_lmulV {x y : Int64} {m : Int} (ho : cw_ho mi pc .lmul len a b z) (hm : x.toInt * y.toInt = m) (hr : -9223372036854775808 ≤ m ∧ m ≤ 9223372036854775807) (k : ∀ r : Int64, r.toInt = m → cw_X X mi Q (pc + len) L (cv_l r :: st) h) : cw_X X mi Q pc L (cv_l y :: cv_l x :: st) h :=
  ex_one ho rfl (k (x * y) (by rw [Int64.toInt_mul, hm, cw_bmL hr.1 hr.2]))
theorem ex_ldivV {x y : Int64} (ho : cw_ho mi pc .ldiv len a b z) (hy : y.toInt ≠ 0) (hx : -9223372036854775807 ≤ x.toInt) (k : ∀ r : Int64, r.toInt = x.toInt.tdiv y.toInt → cw_X X mi Q (pc + len) L (cv_l r :: st) h) : cw_X X mi Q pc L (cv_l y :: cv_l x :: st) h := by
  have hb := cw_i64 x
  refine ex_one ho ?_ (k (x / y) ?_)
  · show Option.map _ (if y = 0 then none else some (x / y)) = _
    rw [if_neg (cw_ne0L hy)]
    rfl
  · have h1 : (x.toInt.tdiv y.toInt).natAbs ≤ x.toInt.natAbs := by
      rw [Int.natAbs_tdiv]
      exact Nat.div_le_self _ _
    rw [Int64.toInt_div, cw_bmL (by omega) (by omega)]
theorem ex_l2iV {x : Int64} (ho : cw_ho mi pc .l2i len a b z) (hr : -2147483648 ≤ x.toInt ∧ x.toInt ≤ 2147483647) (k : ∀ r : Int32, r.toInt = x.toInt → cw_X X mi Q (pc + len) L (cv_i r :: st) h) : cw_X X mi Q pc L (cv_l x :: st) h :=
  ex_one ho rfl (k x.toInt32 (by rw [Int64.toInt_toInt32, cw_bm hr.1 hr.2]))
theorem ex_lnegV {x : Int64} (ho : cw_ho mi pc .lneg len a b z) (h1 : cv_one X (pc, .lneg, len, a, b, z) (pc, L, cv_l x :: st, h, 0, 0) = some (pc + len, L, cv_l (-x) :: st, h, 0, 0)) (hx : -9223372036854775807 ≤ x.toInt) (k : ∀ r : Int64, r.toInt = -x.toInt → cw_X X mi Q (pc + len) L (cv_l r :: st) h) : cw_X X mi Q pc L (cv_l x :: st) h := by
  have hb := cw_i64 x
  exact ex_one ho h1 (k (-x) (by rw [Int64.toInt_neg, cw_bmL (by omega) (by omega)]))
end NL
end
section
/-! ===== a gate's numbers: what both sides work out of them ===== -/
theorem zmb {a b A B : Int} (ha : 0 ≤ a ∧ a ≤ A) (hb : 0 ≤ b ∧ b ≤ B) : 0 ≤ a * b ∧ a * b ≤ A * B :=
  ⟨Int.mul_nonneg ha.1 hb.1, Int.le_trans (Int.mul_le_mul_of_nonneg_right ha.2 hb.1) (Int.mul_le_mul_of_nonneg_left hb.2 (Int.le_trans ha.1 ha.2))⟩
theorem zdb {a d A : Int} (ha : 0 ≤ a ∧ a ≤ A) (hd : 1 ≤ d) : 0 ≤ a / d ∧ a / d ≤ A :=
  ⟨Int.ediv_nonneg ha.1 (by omega), Int.le_trans (Int.ediv_le_self d ha.1) ha.2⟩
def gTR (T : Nat → Int) : Prop := (24 ≤ T 0 ∧ T 0 ≤ 144) ∧ (24 ≤ T 1 ∧ T 1 ≤ 72) ∧ (20 ≤ T 2 ∧ T 2 ≤ 400) ∧ (0 ≤ T 3 ∧ T 3 < T 4 ∧ T 4 ≤ T 1) ∧ (-30 ≤ T 5 ∧ T 5 ≤ 30) ∧ (-30 ≤ T 6 ∧ T 6 ≤ 30) ∧ (12 ≤ T 7 ∧ T 7 ≤ 60) ∧ (3 ≤ T 8 ∧ T 8 ≤ 14) ∧ (0 ≤ T 9 ∧ T 9 ≤ 2) ∧ (0 ≤ T 10 ∧ T 10 ≤ 9999) ∧ (0 ≤ T 11 ∧ T 11 ≤ 9999) ∧ (0 ≤ T 12 ∧ T 12 ≤ 200) ∧ (0 ≤ T 13 ∧ T 13 ≤ 9999) ∧ (0 ≤ T 14 ∧ T 14 < 64)
def gGR (γ : Nat → Int) : Prop := (0 ≤ γ 1 ∧ γ 1 ≤ 1000000) ∧ (0 ≤ γ 2 ∧ γ 2 ≤ 1000000) ∧ (0 ≤ γ 3 ∧ γ 3 ≤ 1000000) ∧ (-300000000 ≤ γ 4 ∧ γ 4 ≤ 300000000) ∧ (0 ≤ γ 5 ∧ γ 5 ≤ 1000) ∧ (0 ≤ γ 6 ∧ γ 6 ≤ 2) ∧ (0 ≤ γ 7 ∧ γ 7 ≤ 100) ∧ (0 ≤ γ 8 ∧ γ 8 ≤ 10000) ∧ (0 ≤ γ 9 ∧ γ 9 ≤ 300) ∧ (0 ≤ γ 10 ∧ γ 10 < 64) ∧ (0 ≤ γ 11 ∧ γ 11 < 64) ∧ (0 ≤ γ 12 ∧ γ 12 ≤ 6000) ∧ (0 ≤ γ 13 ∧ γ 13 ≤ 6000) ∧ (0 ≤ γ 14 ∧ γ 14 ≤ 6000) ∧ (-30 ≤ γ 15 ∧ γ 15 ≤ 30) ∧ (-30 ≤ γ 16 ∧ γ 16 ≤ 30)
def gPull (T : Nat → Int) (child wheel : Int) : Int := (((T 0) * (T 2 + 2 * child)) / (2 * (T 4 - T 3))) * (100 - wheel) / 100
def gLean (T : Nat → Int) (a : Int) : Int := (a * T 0) / T 1
def gHook (T : Nat → Int) (c : Int) : Int := (c * T 0) / (T 4 - T 3)
def gDrop (T : Nat → Int) (a b c d : Int) : Int := gLean T a + b + gHook T c - d
def zTV (h : cv_H) (U : Nat) (T : Nat → Int) : Prop := ∀ j, j < 16 → ri_at h U j = T j
def zGV (h : cv_H) (K : Nat) (γ : Nat → Int) : Prop := ∀ j, 1 ≤ j ∧ j ≤ 16 → ri_at h K j = γ j
theorem gLean_b {T : Nat → Int} {a : Int} (rT : gTR T) (ha : 0 ≤ a ∧ a ≤ 1000000) : 0 ≤ gLean T a ∧ gLean T a ≤ 144000000 := by
  have m := zmb ha (show 0 ≤ T 0 ∧ T 0 ≤ 144 from ⟨by have := rT.1; omega, rT.1.2⟩)
  exact zdb (A := 144000000) ⟨m.1, by omega⟩ (by have := rT.2.1; omega)
theorem gHook_b {T : Nat → Int} {a : Int} (rT : gTR T) (ha : 0 ≤ a ∧ a ≤ 1000000) : 0 ≤ gHook T a ∧ gHook T a ≤ 144000000 := by
  have m := zmb ha (show 0 ≤ T 0 ∧ T 0 ≤ 144 from ⟨by have := rT.1; omega, rT.1.2⟩)
  exact zdb (A := 144000000) ⟨m.1, by omega⟩ (by have := rT.2.2.2.1; omega)
theorem gDrop_b {T : Nat → Int} {a b c d : Int} (rT : gTR T) (ha : 0 ≤ a ∧ a ≤ 1000000) (hb : 0 ≤ b ∧ b ≤ 1000000) (hc : 0 ≤ c ∧ c ≤ 1000000) (hd : -300000000 ≤ d ∧ d ≤ 300000000) : -600000000 ≤ gDrop T a b c d ∧ gDrop T a b c d ≤ 600000000 := by
  have h1 := gLean_b rT ha
  have h2 := gHook_b rT hc
  unfold gDrop
  omega
theorem gPull_b {T : Nat → Int} {child wheel : Int} (rT : gTR T) (hc : 0 ≤ child ∧ child ≤ 300) (hw : 0 ≤ wheel ∧ wheel ≤ 100) : (0 ≤ T 0 * (T 2 + 2 * child) ∧ T 0 * (T 2 + 2 * child) ≤ 144000) ∧ (0 ≤ T 0 * (T 2 + 2 * child) / (2 * (T 4 - T 3)) ∧ T 0 * (T 2 + 2 * child) / (2 * (T 4 - T 3)) ≤ 144000) ∧ (0 ≤ T 0 * (T 2 + 2 * child) / (2 * (T 4 - T 3)) * (100 - wheel) ∧ T 0 * (T 2 + 2 * child) / (2 * (T 4 - T 3)) * (100 - wheel) ≤ 14400000) ∧ (0 ≤ gPull T child wheel ∧ gPull T child wheel ≤ 144000) := by
  have t0 := rT.1
  have t2 := rT.2.2.1
  have t3 := rT.2.2.2.1
  have m := zmb (show 0 ≤ T 0 ∧ T 0 ≤ 144 from ⟨by omega, t0.2⟩) (show 0 ≤ T 2 + 2 * child ∧ T 2 + 2 * child ≤ 1000 from ⟨by omega, by omega⟩)
  have d := zdb (A := 144000) ⟨m.1, by omega⟩ (show 1 ≤ 2 * (T 4 - T 3) by omega)
  have m2 := zmb d (show 0 ≤ 100 - wheel ∧ 100 - wheel ≤ 100 from ⟨by omega, by omega⟩)
  refine ⟨⟨m.1, by omega⟩, d, ⟨m2.1, by omega⟩, ?_⟩
  unfold gPull
  omega
section GN
variable {G : Int} {X : cv_X} {Q : cv_O → Prop} {h : cv_H}
end GN
end
