/-! ===== the checks of the methods ===== -/
def cc_X6_isWord : List cw_G := []
theorem ck_X6_isWord : cw_chk cw_Ds [] mt_X6_isWord kk_X6_isWord cw_dp cc_X6_isWord 0 2000 = true := by decide +kernel
def cc_X0_signOf : List cw_G := []
theorem ck_X0_signOf : cw_chk cw_Ds [kk_X6_isWord] mt_X0_signOf kk_X0_signOf cw_dp cc_X0_signOf 0 2000 = true := by decide +kernel
def cc_X0_latestHeld : List cw_G := []
theorem ck_X0_latestHeld : cw_chk cw_Ds [] mt_X0_latestHeld kk_X0_latestHeld cw_dp cc_X0_latestHeld 0 2000 = true := by decide +kernel
def cc_X0_rankOf : List cw_G := []
theorem ck_X0_rankOf : cw_chk cw_Ds [] mt_X0_rankOf kk_X0_rankOf cw_dp cc_X0_rankOf 0 2000 = true := by decide +kernel
def cc_X4_addCode : List cw_G := []
theorem ck_X4_addCode : cw_chk cw_Ds [] mt_X4_addCode kk_X4_addCode cw_dp cc_X4_addCode 0 2000 = true := by decide +kernel
def cc_X0_release : List cw_G := [(0, [((0, 3), .inl (0, 2147483646, 0)), ((1, 0), .inl (-2147483648, 6, 0)), ((0, 0), .inr (.inr 0))], [(0, (0, 0), 1), (2, (0, 3), 0)])]
theorem ck_X0_release : cw_chk cw_Ds [kk_X0_latestHeld, kk_X0_rankOf, kk_X4_addCode] mt_X0_release kk_X0_release cw_dp cc_X0_release 2 2000 = true := by decide +kernel
def cc_X0_hold : List cw_G := []
theorem ck_X0_hold : cw_chk cw_Ds [] mt_X0_hold kk_X0_hold cw_dp cc_X0_hold 0 2000 = true := by decide +kernel
def cc_X0_openParen : List cw_G := []
theorem ck_X0_openParen : cw_chk cw_Ds [kk_X0_hold] mt_X0_openParen kk_X0_openParen cw_dp cc_X0_openParen 0 2000 = true := by decide +kernel
def cc_X0_holdKnot : List cw_G := []
theorem ck_X0_holdKnot : cw_chk cw_Ds [kk_X0_hold] mt_X0_holdKnot kk_X0_holdKnot cw_dp cc_X0_holdKnot 0 2000 = true := by decide +kernel
def cc_X0_nameOf : List cw_G := []
theorem ck_X0_nameOf : cw_chk cw_Ds [] mt_X0_nameOf kk_X0_nameOf cw_dp cc_X0_nameOf 0 2000 = true := by decide +kernel
def cc_X0_valueKnot : List cw_G := []
theorem ck_X0_valueKnot : cw_chk cw_Ds [kk_X0_nameOf] mt_X0_valueKnot kk_X0_valueKnot cw_dp cc_X0_valueKnot 0 2000 = true := by decide +kernel
def cc_X0_readValue : List cw_G := []
theorem ck_X0_readValue : cw_chk cw_Ds [kk_X0_holdKnot, kk_X0_openParen, kk_X0_valueKnot, kk_X4_addCode, kk_X6_isWord] mt_X0_readValue kk_X0_readValue cw_dp cc_X0_readValue 0 2000 = true := by decide +kernel
def cc_X0_readJoint : List cw_G := []
theorem ck_X0_readJoint : cw_chk cw_Ds [kk_X0_holdKnot, kk_X0_latestHeld, kk_X0_rankOf, kk_X0_release, kk_X0_signOf] mt_X0_readJoint kk_X0_readJoint cw_dp cc_X0_readJoint 0 2000 = true := by decide +kernel
def cc_X6_letterBits : List cw_G := []
theorem ck_X6_letterBits : cw_chk cw_Ds [] mt_X6_letterBits kk_X6_letterBits cw_dp cc_X6_letterBits 0 2000 = true := by decide +kernel
def cc_X6_readLetters : List cw_G := [(2, [((1, 0), .inl cw_top), ((0, 0), .inr (.inr 6)), ((0, 4), .inl (0, 900, 0)), ((0, 5), .inl cw_top), ((0, 7), .inl cw_top)], [(0, (0, 0), 2), (1, (0, 4), 0)]),
    (96, [((2, 0), .inl (0, 34, 0)), ((0, 5), .inl (1, 3, 0)), ((1, 0), .inl cw_top), ((0, 3), .inl (0, 900, 0)), ((0, 4), .inl (0, 900, 0)), ((0, 0), .inr (.inr 6)), ((0, 7), .inl cw_top)], [(0, (0, 0), 1), (1, (2, 0), 0)])]
theorem ck_X6_readLetters : cw_chk cw_Ds [kk_X6_letterBits] mt_X6_readLetters kk_X6_readLetters cw_dp cc_X6_readLetters 2 2000 = true := by decide +kernel
def cc_X6_readDigits : List cw_G := [(0, [((0, 4), .inl (1, 900, 0)), ((0, 7), .inl (-2147483648, 1000000, 0)), ((0, 3), .inl (1, 900, 0)), ((0, 0), .inr (.inr 6)), ((0, 5), .inl cw_top)], [(0, (0, 0), 1), (1, (0, 4), 0)])]
theorem ck_X6_readDigits : cw_chk cw_Ds [] mt_X6_readDigits kk_X6_readDigits cw_dp cc_X6_readDigits 2 2000 = true := by decide +kernel
def cc_X6_takes : List cw_G := []
theorem ck_X6_takes : cw_chk cw_Ds [] mt_X6_takes kk_X6_takes cw_dp cc_X6_takes 0 2000 = true := by decide +kernel
def cc_X6_readSign : List cw_G := []
theorem ck_X6_readSign : cw_chk cw_Ds [kk_X6_takes] mt_X6_readSign kk_X6_readSign cw_dp cc_X6_readSign 0 2000 = true := by decide +kernel
def cc_X6_step : List cw_G := [(0, [((0, 4), .inl (1, 900, 0)), ((0, 3), .inl (1, 900, 0)), ((0, 0), .inr (.inr 6)), ((0, 5), .inl cw_top), ((0, 6), .inl cw_top), ((0, 7), .inl cw_top)], [(0, (0, 0), 1), (1, (0, 4), 0)])]
theorem ck_X6_step : cw_chk cw_Ds [kk_X6_readDigits, kk_X6_readLetters, kk_X6_readSign] mt_X6_step kk_X6_step cw_dp cc_X6_step 2 2000 = true := by decide +kernel
def cc_X0_readInto : List cw_G := [(32, [((2, 0), .inl (0, 901, 0)), ((0, 5), .inl cw_top), ((0, 4), .inl cw_top), ((0, 3), .inl cw_top), ((0, 8), .inr (.inr 4)), ((0, 0), .inr (.inr 0)), ((1, 0), .inr (.inr 4))], [(0, (0, 0), 1), (1, (2, 0), 0)])]
theorem ck_X0_readInto : cw_chk cw_Ds [kk_X0_readJoint, kk_X0_readValue, kk_X0_release, kk_X0_signOf, kk_X6_step] mt_X0_readInto kk_X0_readInto cw_dp cc_X0_readInto 2 2000 = true := by decide +kernel
def cc_X4_moreBy : List cw_G := [(5, [((4, 0), .inl (0, 6, 0)), ((3, 0), .inl cw_top), ((0, 0), .inr (.inr 4)), ((1, 0), .inl cw_top), ((2, 0), .inl cw_top)], [(0, (0, 0), 1), (1, (4, 0), 0)])]
theorem ck_X4_moreBy : cw_chk cw_Ds [] mt_X4_moreBy kk_X4_moreBy cw_dp cc_X4_moreBy 2 2000 = true := by decide +kernel
def cc_X1_setCauses : List cw_G := []
theorem ck_X1_setCauses : cw_chk cw_Ds [kk_X4_moreBy] mt_X1_setCauses kk_X1_setCauses cw_dp cc_X1_setCauses 0 2000 = true := by decide +kernel
def cc_X1_begin : List cw_G := []
theorem ck_X1_begin : cw_chk cw_Ds [kk_X1_setCauses] mt_X1_begin kk_X1_begin cw_dp cc_X1_begin 0 2000 = true := by decide +kernel
def cc_X1_copy : List cw_G := []
theorem ck_X1_copy : cw_chk cw_Ds [] mt_X1_copy kk_X1_copy cw_dp cc_X1_copy 0 2000 = true := by decide +kernel
def cc_X7_span : List cw_G := []
theorem ck_X7_span : cw_chk cw_Ds [] mt_X7_span kk_X7_span cw_dp cc_X7_span 0 2000 = true := by decide +kernel
def cc_X1_pull : List cw_G := []
theorem ck_X1_pull : cw_chk cw_Ds [kk_X7_span] mt_X1_pull kk_X1_pull cw_dp cc_X1_pull 0 2000 = true := by decide +kernel
def cc_X1_leanPart : List cw_G := []
theorem ck_X1_leanPart : cw_chk cw_Ds [] mt_X1_leanPart kk_X1_leanPart cw_dp cc_X1_leanPart 0 2000 = true := by decide +kernel
def cc_X1_hooksPart : List cw_G := []
theorem ck_X1_hooksPart : cw_chk cw_Ds [kk_X7_span] mt_X1_hooksPart kk_X1_hooksPart cw_dp cc_X1_hooksPart 0 2000 = true := by decide +kernel
def cc_X1_drop : List cw_G := []
theorem ck_X1_drop : cw_chk cw_Ds [kk_X1_hooksPart, kk_X1_leanPart] mt_X1_drop kk_X1_drop cw_dp cc_X1_drop 0 2000 = true := by decide +kernel
def cc_X1_measured : List cw_G := []
theorem ck_X1_measured : cw_chk cw_Ds [kk_X1_drop] mt_X1_measured kk_X1_measured cw_dp cc_X1_measured 0 2000 = true := by decide +kernel
def cc_X1_isLatched : List cw_G := []
theorem ck_X1_isLatched : cw_chk cw_Ds [kk_X1_drop] mt_X1_isLatched kk_X1_isLatched cw_dp cc_X1_isLatched 0 2000 = true := by decide +kernel
def cc_X4_isWork : List cw_G := []
theorem ck_X4_isWork : cw_chk cw_Ds [] mt_X4_isWork kk_X4_isWork cw_dp cc_X4_isWork 0 2000 = true := by decide +kernel
def cc_X1_take : List cw_G := []
theorem ck_X1_take : cw_chk cw_Ds [kk_X4_isWork] mt_X1_take kk_X1_take cw_dp cc_X1_take 0 2000 = true := by decide +kernel
def cc_X1_grow : List cw_G := []
theorem ck_X1_grow : cw_chk cw_Ds [] mt_X1_grow kk_X1_grow cw_dp cc_X1_grow 0 2000 = true := by decide +kernel
def cc_X11_isAngle : List cw_G := []
theorem ck_X11_isAngle : cw_chk cw_Ds [] mt_X11_isAngle kk_X11_isAngle cw_dp cc_X11_isAngle 0 2000 = true := by decide +kernel
def cc_X1_lowHung : List cw_G := []
theorem ck_X1_lowHung : cw_chk cw_Ds [kk_X11_isAngle, kk_X7_span] mt_X1_lowHung kk_X1_lowHung cw_dp cc_X1_lowHung 0 2000 = true := by decide +kernel
def cc_X1_aboveHung : List cw_G := []
theorem ck_X1_aboveHung : cw_chk cw_Ds [kk_X11_isAngle, kk_X1_drop, kk_X1_lowHung, kk_X7_span] mt_X1_aboveHung kk_X1_aboveHung cw_dp cc_X1_aboveHung 0 2000 = true := by decide +kernel
def cc_X1_standsWith : List cw_G := [(13, [((4, 0), .inl (0, 9, 0)), ((0, 17), .inl cw_top), ((0, 16), .inl cw_top), ((0, 0), .inr (.inr 1)), ((1, 0), .inl cw_top), ((2, 0), .inl cw_top), ((3, 0), .inl (0, 8, 0))], [(0, (0, 0), 1), (1, (4, 0), 0)])]
theorem ck_X1_standsWith : cw_chk cw_Ds [kk_X1_aboveHung, kk_X1_lowHung] mt_X1_standsWith kk_X1_standsWith cw_dp cc_X1_standsWith 2 2000 = true := by decide +kernel
def cc_X2_forget : List cw_G := [(7, [((1, 0), .inl (0, 3, 0)), ((0, 4), .inl (-1, -1, 0)), ((0, 0), .inr (.inr 2))], [(0, (0, 0), 1), (1, (1, 0), 0)])]
theorem ck_X2_forget : cw_chk cw_Ds [] mt_X2_forget kk_X2_forget cw_dp cc_X2_forget 2 2000 = true := by decide +kernel
def cc_X2_put : List cw_G := []
theorem ck_X2_put : cw_chk cw_Ds [] mt_X2_put kk_X2_put cw_dp cc_X2_put 0 2000 = true := by decide +kernel
def cc_X4_firmIn : List cw_G := []
theorem ck_X4_firmIn : cw_chk cw_Ds [] mt_X4_firmIn kk_X4_firmIn cw_dp cc_X4_firmIn 0 2000 = true := by decide +kernel
def cc_X2_see : List cw_G := []
theorem ck_X2_see : cw_chk cw_Ds [kk_X1_drop, kk_X1_pull, kk_X2_put, kk_X4_firmIn] mt_X2_see kk_X2_see cw_dp cc_X2_see 0 2000 = true := by decide +kernel
def cc_X4_isLaw : List cw_G := []
theorem ck_X4_isLaw : cw_chk cw_Ds [] mt_X4_isLaw kk_X4_isLaw cw_dp cc_X4_isLaw 0 2000 = true := by decide +kernel
def cc_X2_valueOf : List cw_G := []
theorem ck_X2_valueOf : cw_chk cw_Ds [] mt_X2_valueOf kk_X2_valueOf cw_dp cc_X2_valueOf 0 2000 = true := by decide +kernel
def cc_X2_bounded : List cw_G := []
theorem ck_X2_bounded : cw_chk cw_Ds [] mt_X2_bounded kk_X2_bounded cw_dp cc_X2_bounded 0 2000 = true := by decide +kernel
def cc_X2_times : List cw_G := []
theorem ck_X2_times : cw_chk cw_Ds [] mt_X2_times kk_X2_times cw_dp cc_X2_times 0 2000 = true := by decide +kernel
def cc_X2_by : List cw_G := []
theorem ck_X2_by : cw_chk cw_Ds [] mt_X2_by kk_X2_by cw_dp cc_X2_by 0 2000 = true := by decide +kernel
def cc_X2_join : List cw_G := []
theorem ck_X2_join : cw_chk cw_Ds [kk_X2_bounded, kk_X2_by, kk_X2_times] mt_X2_join kk_X2_join cw_dp cc_X2_join 0 2000 = true := by decide +kernel
def cc_X2_workOut : List cw_G := [(40, [((4, 0), .inl cw_top), ((0, 5), .inl (0, 0, 0)), ((3, 0), .inl (0, 64, 0)), ((2, 0), .inl (0, 3, 0)), ((0, 0), .inr (.inr 2)), ((1, 0), .inr (.inr 4))], [(0, (0, 0), 1), (1, (4, 0), 0)])]
theorem ck_X2_workOut : cw_chk cw_Ds [kk_X2_join, kk_X2_valueOf] mt_X2_workOut kk_X2_workOut cw_dp cc_X2_workOut 2 2000 = true := by decide +kernel
def cc_X2_refresh : List cw_G := []
theorem ck_X2_refresh : cw_chk cw_Ds [kk_X2_workOut, kk_X4_isLaw] mt_X2_refresh kk_X2_refresh cw_dp cc_X2_refresh 0 2000 = true := by decide +kernel
def cc_X2_pass : List cw_G := [(3, [((5, 0), .inl (0, 3621, 0)), ((0, 0), .inr (.inr 2)), ((1, 0), .inr (.inr 4)), ((2, 0), .inr (.inr 1)), ((3, 0), .inl (0, 3100, 0)), ((4, 0), .inl (0, 520, 0)), ((0, 4), .inl cw_top)], [(0, (0, 0), 1), (1, (5, 0), 0), (0, (0, 0), 99), (0, (0, 0), 0)]),
    (24, [((6, 0), .inl (0, 3, 0)), ((5, 0), .inl (0, 3620, 0)), ((0, 0), .inr (.inr 2)), ((1, 0), .inr (.inr 4)), ((2, 0), .inr (.inr 1)), ((3, 0), .inl (0, 3100, 0)), ((4, 0), .inl (0, 520, 0)), ((0, 4), .inl cw_top)], [(0, (0, 0), 1), (1, (5, 0), 0), (0, (0, 0), 1), (1, (6, 0), 0)])]
theorem ck_X2_pass : cw_chk cw_Ds [kk_X1_grow, kk_X2_refresh, kk_X2_see] mt_X2_pass kk_X2_pass cw_dp cc_X2_pass 4 2000 = true := by decide +kernel
def cc_X3_clear : List cw_G := []
theorem ck_X3_clear : cw_chk cw_Ds [] mt_X3_clear kk_X3_clear cw_dp cc_X3_clear 0 2000 = true := by decide +kernel
def cc_X3_knownCount : List cw_G := []
theorem ck_X3_knownCount : cw_chk cw_Ds [] mt_X3_knownCount kk_X3_knownCount cw_dp cc_X3_knownCount 0 2000 = true := by decide +kernel
def cc_X3_agree : List cw_G := [(2, [((3, 0), .inl (0, 40, 0)), ((0, 0), .inr (.inr 3)), ((1, 0), .inr (.inr 1)), ((2, 0), .inl cw_top)], [(0, (0, 0), 1), (1, (3, 0), 0)])]
theorem ck_X3_agree : cw_chk cw_Ds [kk_X1_measured] mt_X3_agree kk_X3_agree cw_dp cc_X3_agree 2 2000 = true := by decide +kernel
def cc_X7_setHeight : List cw_G := []
theorem ck_X7_setHeight : cw_chk cw_Ds [] mt_X7_setHeight kk_X7_setHeight cw_dp cc_X7_setHeight 0 2000 = true := by decide +kernel
def cc_X7_clear : List cw_G := [(83, [((1, 0), .inl (0, 9, 0)), ((0, 16), .inl (0, 0, 0)), ((0, 15), .inl (0, 0, 0)), ((0, 14), .inl (3000, 3000, 0)), ((0, 13), .inl (0, 0, 0)), ((0, 12), .inl (1000, 1000, 0)), ((0, 11), .inl (1000, 1000, 0)), ((0, 10), .inl (0, 0, 0)), ((0, 9), .inl (8, 8, 0)), ((0, 8), .inl (36, 36, 0)), ((0, 7), .inl (0, 0, 0)), ((0, 6), .inl (0, 0, 0)), ((0, 3), .inl (20, 20, 0)), ((0, 1), .inl (24, 24, 0)), ((0, 0), .inr (.inr 7))], [(0, (0, 0), 1), (1, (1, 0), 0)])]
theorem ck_X7_clear : cw_chk cw_Ds [kk_X7_setHeight] mt_X7_clear kk_X7_clear cw_dp cc_X7_clear 2 2000 = true := by decide +kernel
def cc_X4_clear : List cw_G := [(2, [((1, 0), .inl (0, 12, 0)), ((0, 0), .inr (.inr 4)), ((0, 3), .inl cw_top), ((0, 4), .inl cw_top), ((0, 10), .inl (0, 4, 0)), ((0, 15), .inl (0, 6, 0)), ((0, 20), .inl (0, 6, 0))], [(0, (0, 0), 3), (1, (1, 0), 0)]),
    (24, [((1, 0), .inl (0, 4, 0)), ((0, 0), .inr (.inr 4)), ((0, 3), .inl cw_top), ((0, 4), .inl cw_top), ((0, 10), .inl (0, 4, 0)), ((0, 15), .inl (0, 6, 0)), ((0, 20), .inl (0, 6, 0))], [(0, (0, 0), 2), (1, (1, 0), 0)]),
    (58, [((1, 0), .inl (0, 4, 0)), ((0, 0), .inr (.inr 4)), ((0, 3), .inl cw_top), ((0, 4), .inl cw_top), ((0, 10), .inl (0, 4, 0)), ((0, 15), .inl (0, 6, 0)), ((0, 20), .inl (0, 6, 0))], [(0, (0, 0), 1), (1, (1, 0), 0)])]
theorem ck_X4_clear : cw_chk cw_Ds [kk_X7_clear] mt_X4_clear kk_X4_clear cw_dp cc_X4_clear 2 2000 = true := by decide +kernel
def cc_X4_isCause : List cw_G := []
theorem ck_X4_isCause : cw_chk cw_Ds [] mt_X4_isCause kk_X4_isCause cw_dp cc_X4_isCause 0 2000 = true := by decide +kernel
def cc_X4_growthNames : List cw_G := []
theorem ck_X4_growthNames : cw_chk cw_Ds [] mt_X4_growthNames kk_X4_growthNames cw_dp cc_X4_growthNames 0 2000 = true := by decide +kernel
def cc_X4_costOf : List cw_G := [(4, [((3, 0), .inl (0, 6, 0)), ((2, 0), .inl cw_top), ((0, 0), .inr (.inr 4)), ((1, 0), .inl cw_top)], [(0, (0, 0), 1), (1, (3, 0), 0)])]
theorem ck_X4_costOf : cw_chk cw_Ds [] mt_X4_costOf kk_X4_costOf cw_dp cc_X4_costOf 2 2000 = true := by decide +kernel
def cc_X4_weightOf : List cw_G := []
theorem ck_X4_weightOf : cw_chk cw_Ds [kk_X4_isCause] mt_X4_weightOf kk_X4_weightOf cw_dp cc_X4_weightOf 0 2000 = true := by decide +kernel
def cc_X6_begin : List cw_G := []
theorem ck_X6_begin : cw_chk cw_Ds [kk_X6_step] mt_X6_begin kk_X6_begin cw_dp cc_X6_begin 0 2000 = true := by decide +kernel
def cc_X5_fail : List cw_G := []
theorem ck_X5_fail : cw_chk cw_Ds [] mt_X5_fail kk_X5_fail cw_dp cc_X5_fail 0 2000 = true := by decide +kernel
def cc_X5_readNumber : List cw_G := []
theorem ck_X5_readNumber : cw_chk cw_Ds [kk_X5_fail, kk_X6_step] mt_X5_readNumber kk_X5_readNumber cw_dp cc_X5_readNumber 0 2000 = true := by decide +kernel
def cc_X5_readNumber_1 : List cw_G := []
theorem ck_X5_readNumber_1 : cw_chk cw_Ds [kk_X5_fail, kk_X6_step] mt_X5_readNumber kk_X5_readNumber_1 cw_dp cc_X5_readNumber_1 0 2000 = true := by decide +kernel
def cc_X5_readGround : List cw_G := [(28, [((1, 0), .inl (0, 12, 0)), ((0, 4), .inl (1, 1, 0)), ((0, 0), .inr (.inr 5))], [(0, (0, 0), 1), (1, (1, 0), 0)])]
theorem ck_X5_readGround : cw_chk cw_Ds [kk_X5_fail, kk_X5_readNumber_1, kk_X6_step] mt_X5_readGround kk_X5_readGround cw_dp cc_X5_readGround 2 2000 = true := by decide +kernel
def cc_X6_isWordFrom : List cw_G := []
theorem ck_X6_isWordFrom : cw_chk cw_Ds [] mt_X6_isWordFrom kk_X6_isWordFrom cw_dp cc_X6_isWordFrom 0 2000 = true := by decide +kernel
def cc_X5_readLaw : List cw_G := []
theorem ck_X5_readLaw : cw_chk cw_Ds [kk_X0_readInto, kk_X4_isLaw, kk_X5_fail, kk_X6_isWordFrom, kk_X6_step] mt_X5_readLaw kk_X5_readLaw cw_dp cc_X5_readLaw 0 2000 = true := by decide +kernel
def cc_X11_placeOf : List cw_G := [(2, [((3, 0), .inl (0, 4, 0)), ((0, 0), .inl cw_top), ((1, 0), .inr (.inr 34)), ((2, 0), .inl cw_top)], [(0, (0, 0), 1), (1, (3, 0), 0)])]
theorem ck_X11_placeOf : cw_chk cw_Ds [] mt_X11_placeOf kk_X11_placeOf cw_dp cc_X11_placeOf 2 2000 = true := by decide +kernel
def cc_X11_placeOf_1 : List cw_G := [(2, [((3, 0), .inl (0, 6, 0)), ((0, 0), .inl cw_top), ((1, 0), .inr (.inr 35)), ((2, 0), .inl cw_top)], [(0, (0, 0), 1), (1, (3, 0), 0)])]
theorem ck_X11_placeOf_1 : cw_chk cw_Ds [] mt_X11_placeOf kk_X11_placeOf_1 cw_dp cc_X11_placeOf_1 2 2000 = true := by decide +kernel
def cc_X11_placeOf_2 : List cw_G := [(2, [((3, 0), .inl (0, 6, 0)), ((0, 0), .inl cw_top), ((1, 0), .inr (.inr 39)), ((2, 0), .inl cw_top)], [(0, (0, 0), 1), (1, (3, 0), 0)])]
theorem ck_X11_placeOf_2 : cw_chk cw_Ds [] mt_X11_placeOf kk_X11_placeOf_2 cw_dp cc_X11_placeOf_2 2 2000 = true := by decide +kernel
def cc_X5_readNewName : List cw_G := []
theorem ck_X5_readNewName : cw_chk cw_Ds [kk_X11_placeOf, kk_X5_fail, kk_X6_step] mt_X5_readNewName kk_X5_readNewName cw_dp cc_X5_readNewName 0 2000 = true := by decide +kernel
def cc_X5_readNewName_1 : List cw_G := []
theorem ck_X5_readNewName_1 : cw_chk cw_Ds [kk_X11_placeOf_1, kk_X5_fail, kk_X6_step] mt_X5_readNewName kk_X5_readNewName_1 cw_dp cc_X5_readNewName_1 0 2000 = true := by decide +kernel
def cc_X5_readNewName_2 : List cw_G := []
theorem ck_X5_readNewName_2 : cw_chk cw_Ds [kk_X11_placeOf_2, kk_X5_fail, kk_X6_step] mt_X5_readNewName kk_X5_readNewName_2 cw_dp cc_X5_readNewName_2 0 2000 = true := by decide +kernel
def cc_X5_readBrace : List cw_G := []
theorem ck_X5_readBrace : cw_chk cw_Ds [kk_X5_fail, kk_X6_isWordFrom, kk_X6_step] mt_X5_readBrace kk_X5_readBrace cw_dp cc_X5_readBrace 0 2000 = true := by decide +kernel
def cc_X5_readHas : List cw_G := []
theorem ck_X5_readHas : cw_chk cw_Ds [kk_X11_placeOf_2, kk_X5_fail, kk_X6_step] mt_X5_readHas kk_X5_readHas cw_dp cc_X5_readHas 0 2000 = true := by decide +kernel
def cc_X5_readPart : List cw_G := [(247, [((3, 0), .inl (0, 9, 0)), ((1, 16), .inl cw_top), ((2, 0), .inl cw_top), ((0, 0), .inr (.inr 5)), ((1, 0), .inr (.inr 7))], [(0, (0, 0), 1), (1, (3, 0), 0)])]
theorem ck_X5_readPart : cw_chk cw_Ds [kk_X5_fail, kk_X5_readBrace, kk_X5_readHas, kk_X5_readNumber, kk_X5_readNumber_1, kk_X6_step] mt_X5_readPart kk_X5_readPart cw_dp cc_X5_readPart 2 2000 = true := by decide +kernel
def cc_X5_readGate : List cw_G := [(102, [((3, 0), .inl (0, 901, 0)), ((2, 3), .inl cw_top), ((2, 1), .inl cw_top), ((2, 0), .inr (.inr 7)), ((1, 0), .inl (0, 3, 0)), ((0, 0), .inr (.inr 5))], [(0, (0, 0), 1), (1, (3, 0), 0)])]
theorem ck_X5_readGate : cw_chk cw_Ds [kk_X5_fail, kk_X5_readNewName, kk_X5_readNumber, kk_X5_readNumber_1, kk_X5_readPart, kk_X6_isWordFrom, kk_X6_step, kk_X7_setHeight] mt_X5_readGate kk_X5_readGate cw_dp cc_X5_readGate 2 2000 = true := by decide +kernel
def cc_X5_kindOf : List cw_G := []
theorem ck_X5_kindOf : cw_chk cw_Ds [] mt_X5_kindOf kk_X5_kindOf cw_dp cc_X5_kindOf 0 2000 = true := by decide +kernel
def cc_X5_mostOf : List cw_G := []
theorem ck_X5_mostOf : cw_chk cw_Ds [] mt_X5_mostOf kk_X5_mostOf cw_dp cc_X5_mostOf 0 2000 = true := by decide +kernel
def cc_X5_readWork : List cw_G := []
theorem ck_X5_readWork : cw_chk cw_Ds [kk_X5_fail, kk_X5_kindOf, kk_X5_mostOf, kk_X5_readNewName_1, kk_X5_readNumber_1, kk_X6_step] mt_X5_readWork kk_X5_readWork cw_dp cc_X5_readWork 0 2000 = true := by decide +kernel
def cc_X5_readCause : List cw_G := []
theorem ck_X5_readCause : cw_chk cw_Ds [kk_X5_fail, kk_X5_readNewName_2, kk_X5_readNumber_1, kk_X6_isWordFrom, kk_X6_step] mt_X5_readCause kk_X5_readCause cw_dp cc_X5_readCause 0 2000 = true := by decide +kernel
def cc_X5_readSemicolon : List cw_G := []
theorem ck_X5_readSemicolon : cw_chk cw_Ds [kk_X5_fail, kk_X6_step] mt_X5_readSemicolon kk_X5_readSemicolon cw_dp cc_X5_readSemicolon 0 2000 = true := by decide +kernel
def cc_X5_readText : List cw_G := [(37, [((3, 0), .inl (0, 901, 0)), ((0, 6), .inl cw_top), ((0, 5), .inl (0, 0, 0)), ((0, 3), .inr (.inr 4)), ((0, 0), .inr (.inr 5)), ((1, 0), .inr (.inr 4)), ((2, 0), .inl cw_top)], [(0, (0, 0), 1), (1, (3, 0), 0)])]
theorem ck_X5_readText : cw_chk cw_Ds [kk_X4_clear, kk_X5_fail, kk_X5_readCause, kk_X5_readGate, kk_X5_readGround, kk_X5_readLaw, kk_X5_readSemicolon, kk_X5_readWork, kk_X6_begin] mt_X5_readText kk_X5_readText cw_dp cc_X5_readText 2 2000 = true := by decide +kernel
def cc_X8_record : List cw_G := [(2, [((2, 0), .inl (0, 4, 0)), ((0, 0), .inr (.inr 8)), ((1, 0), .inl cw_top)], [(0, (0, 0), 1), (1, (2, 0), 0)])]
theorem ck_X8_record : cw_chk cw_Ds [kk_X1_measured] mt_X8_record kk_X8_record cw_dp cc_X8_record 2 2000 = true := by decide +kernel
def cc_X8_judge : List cw_G := [(23, [((7, 0), .inl (0, 7, 0)), ((0, 3), .inl cw_top), ((6, 0), .inl (-1, 1999, 0)), ((0, 0), .inr (.inr 8)), ((1, 0), .inr (.inr 4)), ((2, 0), .inr (.inr 2)), ((3, 0), .inr (.inr 3)), ((4, 0), .inl (0, 3, 0)), ((5, 0), .inl (0, 2000, 0))], [(0, (0, 0), 1), (1, (7, 0), 0), (0, (0, 0), 99), (0, (0, 0), 0)]),
    (79, [((9, 0), .inl (0, 2000, 0)), ((8, 0), .inl (0, 1, 0)), ((1, 20), .inl (0, 6, 0)), ((7, 0), .inl (0, 6, 0)), ((0, 3), .inl cw_top), ((6, 0), .inl (-1, 1999, 0)), ((0, 0), .inr (.inr 8)), ((1, 0), .inr (.inr 4)), ((2, 0), .inr (.inr 2)), ((3, 0), .inr (.inr 3)), ((4, 0), .inl (0, 3, 0)), ((5, 0), .inl (0, 2000, 0))], [(0, (0, 0), 1), (1, (7, 0), 0), (0, (0, 0), 1), (1, (9, 0), 0)])]
theorem ck_X8_judge : cw_chk cw_Ds [kk_X1_begin, kk_X1_setCauses, kk_X2_pass, kk_X3_agree, kk_X3_pick, kk_X8_record] mt_X8_judge kk_X8_judge cw_dp cc_X8_judge 4 2000 = true := by decide +kernel
def cc_X8_recorded : List cw_G := []
theorem ck_X8_recorded : cw_chk cw_Ds [] mt_X8_recorded kk_X8_recorded cw_dp cc_X8_recorded 0 2000 = true := by decide +kernel
def cc_X8_weightOfFitting : List cw_G := [(4, [((3, 0), .inl (0, 7, 0)), ((2, 0), .inl cw_top), ((0, 0), .inr (.inr 8)), ((1, 0), .inr (.inr 4))], [(0, (0, 0), 1), (1, (3, 0), 0)])]
theorem ck_X8_weightOfFitting : cw_chk cw_Ds [kk_X4_weightOf] mt_X8_weightOfFitting kk_X8_weightOfFitting cw_dp cc_X8_weightOfFitting 2 2000 = true := by decide +kernel
def cc_X8_heaviestGroup : List cw_G := [(5, [((4, 0), .inl (0, 7, 0)), ((3, 0), .inl (0, 2147483647, 0)), ((0, 0), .inr (.inr 8)), ((1, 0), .inr (.inr 4)), ((2, 0), .inl cw_top)], [(0, (0, 0), 1), (1, (4, 0), 0), (0, (0, 0), 99), (0, (0, 0), 0)]),
    (20, [((6, 0), .inl (0, 7, 0)), ((5, 0), .inl cw_top), ((1, 20), .inl (0, 6, 0)), ((4, 0), .inl (0, 6, 0)), ((3, 0), .inl (0, 2147483647, 0)), ((0, 0), .inr (.inr 8)), ((1, 0), .inr (.inr 4)), ((2, 0), .inl cw_top)], [(0, (0, 0), 1), (1, (4, 0), 0), (0, (0, 0), 1), (1, (6, 0), 0)])]
theorem ck_X8_heaviestGroup : cw_chk cw_Ds [kk_X4_weightOf, kk_X8_recorded] mt_X8_heaviestGroup kk_X8_heaviestGroup cw_dp cc_X8_heaviestGroup 4 2000 = true := by decide +kernel
def cc_X9_tell : List cw_G := []
theorem ck_X9_tell : cw_chk cw_Ds [] mt_X9_tell kk_X9_tell cw_dp cc_X9_tell 0 2000 = true := by decide +kernel
def cc_X9_sumOf : List cw_G := [(17, [((6, 0), .inl (-1, 3, 0)), ((5, 0), .inl (0, 2147483647, 0)), ((4, 0), .inl cw_top), ((3, 0), .inl cw_top), ((0, 0), .inr (.inr 9)), ((1, 0), .inl (0, 2147483647, 0)), ((2, 0), .inl (0, 4, 0))], [(0, (0, 0), 1), (2, (6, 0), 0)])]
theorem ck_X9_sumOf : cw_chk cw_Ds [] mt_X9_sumOf kk_X9_sumOf cw_dp cc_X9_sumOf 2 2000 = true := by decide +kernel
def cc_X9_choose : List cw_G := [(4, [((3, 0), .inl (0, 4, 0)), ((2, 0), .inl cw_top), ((0, 0), .inr (.inr 9)), ((1, 0), .inl (0, 4, 0)), ((0, 4), .inl cw_top)], [(0, (0, 0), 2), (1, (3, 0), 0), (0, (0, 0), 99), (0, (0, 0), 0)]),
    (26, [((3, 0), .inl (0, 2147483647, 0)), ((0, 4), .inl cw_top), ((1, 0), .inl (0, 4, 0)), ((2, 0), .inl cw_top), ((0, 0), .inr (.inr 9))], [(0, (0, 0), 1), (1, (3, 0), 0), (0, (0, 0), 99), (0, (0, 0), 0)]),
    (71, [((5, 0), .inl (0, 4, 0)), ((0, 4), .inl cw_top), ((4, 0), .inl cw_top), ((2, 0), .inl (1, 2147483647, 0)), ((3, 0), .inl (0, 2147483646, 0)), ((1, 0), .inl (0, 4, 0)), ((0, 0), .inr (.inr 9))], [(0, (0, 0), 1), (1, (3, 0), 0), (0, (0, 0), 1), (1, (5, 0), 0)])]
theorem ck_X9_choose : cw_chk cw_Ds [kk_X9_sumOf] mt_X9_choose kk_X9_choose cw_dp cc_X9_choose 4 2000 = true := by decide +kernel
def cc_X9_gateAt : List cw_G := []
theorem ck_X9_gateAt : cw_chk cw_Ds [] mt_X9_gateAt kk_X9_gateAt cw_dp cc_X9_gateAt 0 2000 = true := by decide +kernel
def cc_X10_clear : List cw_G := []
theorem ck_X10_clear : cw_chk cw_Ds [] mt_X10_clear kk_X10_clear cw_dp cc_X10_clear 0 2000 = true := by decide +kernel
def cc_X10_dropEarliest : List cw_G := [(9, [((2, 0), .inl (1, 20, 0)), ((1, 0), .inr (.inr 1)), ((0, 0), .inr (.inr 10)), ((0, 3), .inl cw_top)], [(0, (0, 0), 1), (1, (2, 0), 0)])]
theorem ck_X10_dropEarliest : cw_chk cw_Ds [] mt_X10_dropEarliest kk_X10_dropEarliest cw_dp cc_X10_dropEarliest 2 2000 = true := by decide +kernel
def cc_X10_push : List cw_G := []
theorem ck_X10_push : cw_chk cw_Ds [kk_X10_dropEarliest, kk_X1_copy] mt_X10_push kk_X10_push cw_dp cc_X10_push 0 2000 = true := by decide +kernel
def cc_X10_latestGate : List cw_G := []
theorem ck_X10_latestGate : cw_chk cw_Ds [] mt_X10_latestGate kk_X10_latestGate cw_dp cc_X10_latestGate 0 2000 = true := by decide +kernel
def cc_X10_popInto : List cw_G := []
theorem ck_X10_popInto : cw_chk cw_Ds [kk_X1_copy] mt_X10_popInto kk_X10_popInto cw_dp cc_X10_popInto 0 2000 = true := by decide +kernel
def cc_X11_takeSpare : List cw_G := [(27, [((2, 0), .inl (0, 4, 0)), ((0, 4), .inr (.inr 4)), ((0, 3), .inr (.inr 4)), ((1, 0), .inr (.inr 4)), ((0, 0), .inr (.inr 11)), ((0, 9), .inl (0, 2000, 0)), ((0, 11), .inl (-1, 2000, 0))], [(0, (0, 0), 1), (1, (2, 0), 0)])]
theorem ck_X11_takeSpare : cw_chk cw_Ds [kk_X10_clear, kk_X1_begin, kk_X2_forget, kk_X3_clear] mt_X11_takeSpare kk_X11_takeSpare cw_dp cc_X11_takeSpare 2 2000 = true := by decide +kernel
def cc_X11_text : List cw_G := []
theorem ck_X11_text : cw_chk cw_Ds [kk_X11_takeSpare, kk_X5_readText] mt_X11_text kk_X11_text cw_dp cc_X11_text 0 2000 = true := by decide +kernel
def cc_X11_fault : List cw_G := []
theorem ck_X11_fault : cw_chk cw_Ds [] mt_X11_fault kk_X11_fault cw_dp cc_X11_fault 0 2000 = true := by decide +kernel
def cc_X11_named : List cw_G := []
theorem ck_X11_named : cw_chk cw_Ds [kk_X11_placeOf, kk_X11_placeOf_1, kk_X11_placeOf_2] mt_X11_named kk_X11_named cw_dp cc_X11_named 0 2000 = true := by decide +kernel
def cc_X11_isGate : List cw_G := []
theorem ck_X11_isGate : cw_chk cw_Ds [] mt_X11_isGate kk_X11_isGate cw_dp cc_X11_isGate 0 2000 = true := by decide +kernel
def cc_X11_isBound : List cw_G := []
theorem ck_X11_isBound : cw_chk cw_Ds [] mt_X11_isBound kk_X11_isBound cw_dp cc_X11_isBound 0 2000 = true := by decide +kernel
def cc_X11_isAhead : List cw_G := []
theorem ck_X11_isAhead : cw_chk cw_Ds [] mt_X11_isAhead kk_X11_isAhead cw_dp cc_X11_isAhead 0 2000 = true := by decide +kernel
def cc_X11_isWeek : List cw_G := []
theorem ck_X11_isWeek : cw_chk cw_Ds [] mt_X11_isWeek kk_X11_isWeek cw_dp cc_X11_isWeek 0 2000 = true := by decide +kernel
def cc_X11_works : List cw_G := []
theorem ck_X11_works : cw_chk cw_Ds [kk_X4_isWork] mt_X11_works kk_X11_works cw_dp cc_X11_works 0 2000 = true := by decide +kernel
def cc_X11_firm : List cw_G := []
theorem ck_X11_firm : cw_chk cw_Ds [kk_X11_isWeek, kk_X4_firmIn] mt_X11_firm kk_X11_firm cw_dp cc_X11_firm 0 2000 = true := by decide +kernel
def cc_X11_sags : List cw_G := []
theorem ck_X11_sags : cw_chk cw_Ds [kk_X11_isGate, kk_X1_drop, kk_X1_hooksPart, kk_X1_leanPart] mt_X11_sags kk_X11_sags cw_dp cc_X11_sags 0 2000 = true := by decide +kernel
def cc_X11_latched : List cw_G := []
theorem ck_X11_latched : cw_chk cw_Ds [kk_X11_isGate, kk_X1_isLatched] mt_X11_latched kk_X11_latched cw_dp cc_X11_latched 0 2000 = true := by decide +kernel
def cc_X11_gives : List cw_G := []
theorem ck_X11_gives : cw_chk cw_Ds [kk_X11_isGate, kk_X1_hooksPart, kk_X1_leanPart] mt_X11_gives kk_X11_gives cw_dp cc_X11_gives 0 2000 = true := by decide +kernel
def cc_X11_work : List cw_G := []
theorem ck_X11_work : cw_chk cw_Ds [kk_X10_push, kk_X11_isGate, kk_X1_take, kk_X4_isWork] mt_X11_work kk_X11_work cw_dp cc_X11_work 0 2000 = true := by decide +kernel
def cc_X11_undo : List cw_G := []
theorem ck_X11_undo : cw_chk cw_Ds [kk_X10_latestGate, kk_X10_popInto, kk_X11_isGate] mt_X11_undo kk_X11_undo cw_dp cc_X11_undo 0 2000 = true := by decide +kernel
def cc_X11_lasts : List cw_G := [(32, [((3, 0), .inl (1, 1001, 0)), ((2, 0), .inl (-99999, 99999, 0)), ((1, 0), .inl (0, 3, 0)), ((0, 0), .inr (.inr 11))], [(0, (0, 0), 1), (1, (3, 0), 0)])]
theorem ck_X11_lasts : cw_chk cw_Ds [kk_X11_isBound, kk_X11_isGate, kk_X1_copy, kk_X1_drop, kk_X2_pass] mt_X11_lasts kk_X11_lasts cw_dp cc_X11_lasts 2 2000 = true := by decide +kernel
def cc_X11_holds : List cw_G := [(16, [((5, 0), .inl (0, 6, 0)), ((0, 0), .inr (.inr 11)), ((1, 0), .inl (0, 3, 0)), ((2, 0), .inl cw_top), ((3, 0), .inl (0, 520, 0)), ((4, 0), .inl cw_top)], [(0, (0, 0), 1), (1, (5, 0), 0)])]
theorem ck_X11_holds : cw_chk cw_Ds [kk_X1_copy, kk_X1_drop, kk_X1_take, kk_X2_pass] mt_X11_holds kk_X11_holds cw_dp cc_X11_holds 2 2000 = true := by decide +kernel
def cc_X11_least : List cw_G := [(46, [((7, 0), .inl (0, 2147483647, 0)), ((6, 0), .inl (-2, 2147483646, 0)), ((5, 0), .inl cw_top), ((4, 0), .inl (0, 1, 0)), ((3, 0), .inl (-99999, 99999, 0)), ((2, 0), .inl (0, 520, 0)), ((1, 0), .inl (0, 3, 0)), ((0, 0), .inr (.inr 11))], [(0, (0, 0), 1), (1, (7, 0), 0)])]
theorem ck_X11_least : cw_chk cw_Ds [kk_X11_holds, kk_X11_isAhead, kk_X11_isBound, kk_X11_isGate, kk_X4_costOf] mt_X11_least kk_X11_least cw_dp cc_X11_least 2 2000 = true := by decide +kernel
def cc_X11_dropWithBrace : List cw_G := []
theorem ck_X11_dropWithBrace : cw_chk cw_Ds [kk_X1_copy, kk_X1_drop, kk_X2_pass] mt_X11_dropWithBrace kk_X11_dropWithBrace cw_dp cc_X11_dropWithBrace 0 2000 = true := by decide +kernel
def cc_X11_way : List cw_G := []
theorem ck_X11_way : cw_chk cw_Ds [kk_X11_dropWithBrace, kk_X11_isAhead, kk_X11_isGate] mt_X11_way kk_X11_way cw_dp cc_X11_way 0 2000 = true := by decide +kernel
def cc_X11_enough : List cw_G := [(47, [((5, 0), .inl (12, 61, 0)), ((4, 0), .inl (0, 1, 0)), ((3, 0), .inl (-99999, 99999, 0)), ((2, 0), .inl (0, 520, 0)), ((1, 0), .inl (0, 3, 0)), ((0, 0), .inr (.inr 11))], [(0, (0, 0), 1), (1, (5, 0), 0)])]
theorem ck_X11_enough : cw_chk cw_Ds [kk_X11_isAhead, kk_X11_isBound, kk_X11_isGate, kk_X1_copy, kk_X2_pass, kk_X4_growthNames] mt_X11_enough kk_X11_enough cw_dp cc_X11_enough 2 2000 = true := by decide +kernel
def cc_X11_bears : List cw_G := [(72, [((7, 0), .inl (-1, 200, 0)), ((6, 0), .inl cw_top), ((5, 0), .inl (0, 1, 0)), ((4, 0), .inl (0, 1, 0)), ((3, 0), .inl (-99999, 99999, 0)), ((2, 0), .inl (0, 520, 0)), ((1, 0), .inl (0, 3, 0)), ((0, 0), .inr (.inr 11))], [(0, (0, 0), 1), (2, (7, 0), 0)])]
theorem ck_X11_bears : cw_chk cw_Ds [kk_X11_isAhead, kk_X11_isBound, kk_X11_isGate, kk_X1_copy, kk_X1_drop, kk_X1_pull, kk_X2_pass, kk_X4_growthNames] mt_X11_bears kk_X11_bears cw_dp cc_X11_bears 2 2000 = true := by decide +kernel
def cc_X11_knock : List cw_G := []
theorem ck_X11_knock : cw_chk cw_Ds [kk_X11_isGate, kk_X2_see, kk_X2_workOut, kk_X4_isLaw] mt_X11_knock kk_X11_knock cw_dp cc_X11_knock 0 2000 = true := by decide +kernel
def cc_X11_known : List cw_G := []
theorem ck_X11_known : cw_chk cw_Ds [] mt_X11_known kk_X11_known cw_dp cc_X11_known 0 2000 = true := by decide +kernel
def cc_X11_fits : List cw_G := []
theorem ck_X11_fits : cw_chk cw_Ds [kk_X11_isGate, kk_X8_judge] mt_X11_fits kk_X11_fits cw_dp cc_X11_fits 0 2000 = true := by decide +kernel
def cc_X11_odds : List cw_G := []
theorem ck_X11_odds : cw_chk cw_Ds [kk_X11_isGate, kk_X4_weightOf, kk_X8_judge, kk_X8_weightOfFitting] mt_X11_odds kk_X11_odds cw_dp cc_X11_odds 0 2000 = true := by decide +kernel
def cc_J6_bitCount_0f7a4 : List cw_G := []
theorem ck_J6_bitCount_0f7a4 : cw_chk cw_Ds [] mt_J6_bitCount_0f7a4 kk_J6_bitCount_0f7a4 cw_dp cc_J6_bitCount_0f7a4 0 2000 = true := by decide +kernel
def cc_X11_test : List cw_G := [(64, [((4, 0), .inl (1, 4, 0)), ((3, 0), .inl (0, 3, 0)), ((2, 0), .inl (0, 1, 0)), ((1, 0), .inl (0, 3, 0)), ((0, 0), .inr (.inr 11))], [(0, (0, 0), 1), (1, (4, 0), 0)])]
theorem ck_X11_test : cw_chk cw_Ds [kk_J6_bitCount_0f7a4, kk_X11_isGate, kk_X8_heaviestGroup, kk_X8_judge] mt_X11_test kk_X11_test cw_dp cc_X11_test 2 2000 = true := by decide +kernel
def cc_X11_low : List cw_G := []
theorem ck_X11_low : cw_chk cw_Ds [kk_X11_isAngle, kk_X11_isGate, kk_X1_lowHung] mt_X11_low kk_X11_low cw_dp cc_X11_low 0 2000 = true := by decide +kernel
def cc_X11_rest : List cw_G := [(14, [((3, 0), .inl (1, 9, 0)), ((2, 0), .inl (0, 8, 0)), ((1, 0), .inl (0, 3, 0)), ((0, 0), .inr (.inr 11))], [(0, (0, 0), 1), (1, (3, 0), 0)])]
theorem ck_X11_rest : cw_chk cw_Ds [kk_X11_isGate, kk_X1_lowHung] mt_X11_rest kk_X11_rest cw_dp cc_X11_rest 2 2000 = true := by decide +kernel
def cc_X11_shuts : List cw_G := [(14, [((3, 0), .inl (1, 9, 0)), ((2, 0), .inl cw_top), ((1, 0), .inl (0, 3, 0)), ((0, 0), .inr (.inr 11))], [(0, (0, 0), 1), (1, (3, 0), 0)])]
theorem ck_X11_shuts : cw_chk cw_Ds [kk_X11_isGate, kk_X1_lowHung] mt_X11_shuts kk_X11_shuts cw_dp cc_X11_shuts 2 2000 = true := by decide +kernel
def cc_X11_above : List cw_G := []
theorem ck_X11_above : cw_chk cw_Ds [kk_X11_isAngle, kk_X11_isGate, kk_X1_aboveHung] mt_X11_above kk_X11_above cw_dp cc_X11_above 0 2000 = true := by decide +kernel
def cc_X11_opens : List cw_G := [(13, [((2, 0), .inl (0, 9, 0)), ((1, 0), .inl (0, 3, 0)), ((0, 0), .inr (.inr 11))], [(0, (0, 0), 1), (1, (2, 0), 0)])]
theorem ck_X11_opens : cw_chk cw_Ds [kk_X11_isGate, kk_X1_aboveHung] mt_X11_opens kk_X11_opens cw_dp cc_X11_opens 2 2000 = true := by decide +kernel
def cc_X11_stand : List cw_G := [(43, [((4, 0), .inl (0, 61, 0)), ((3, 0), .inl (0, 1, 0)), ((2, 0), .inl (0, 8, 0)), ((1, 0), .inl (0, 3, 0)), ((0, 0), .inr (.inr 11))], [(0, (0, 0), 1), (1, (4, 0), 0), (0, (0, 0), 99), (0, (0, 0), 0)]),
    (54, [((5, 0), .inl (-30, 31, 0)), ((4, 0), .inl (0, 60, 0)), ((3, 0), .inl (0, 1, 0)), ((2, 0), .inl (0, 8, 0)), ((1, 0), .inl (0, 3, 0)), ((0, 0), .inr (.inr 11))], [(0, (0, 0), 1), (1, (4, 0), 0), (0, (0, 0), 1), (1, (5, 0), 0)])]
theorem ck_X11_stand : cw_chk cw_Ds [kk_X11_isAngle, kk_X11_isGate, kk_X1_copy, kk_X1_standsWith] mt_X11_stand kk_X11_stand cw_dp cc_X11_stand 4 2000 = true := by decide +kernel
def cc_X11_unlatchedWeeks : List cw_G := [(29, [((5, 0), .inl (0, 400, 0)), ((4, 0), .inl cw_top), ((1, 0), .inl (0, 3, 0)), ((0, 0), .inr (.inr 11)), ((2, 0), .inl cw_top), ((3, 0), .inl (1, 100, 0))], [(0, (0, 0), 1), (1, (5, 0), 0)])]
theorem ck_X11_unlatchedWeeks : cw_chk cw_Ds [kk_X11_isGate, kk_X1_copy, kk_X1_drop, kk_X1_isLatched, kk_X2_pass] mt_X11_unlatchedWeeks kk_X11_unlatchedWeeks cw_dp cc_X11_unlatchedWeeks 2 2000 = true := by decide +kernel
def cc_X11_first : List cw_G := [(40, [((3, 0), .inl (0, 4, 0)), ((0, 1003), .inl (1, 4, 1)), ((2, 0), .inl (0, 4, 0)), ((1, 0), .inl (1, 100, 0)), ((0, 0), .inr (.inr 11))], [(0, (0, 0), 1), (1, (3, 0), 0), (0, (0, 0), 99), (0, (0, 0), 0)]),
    (54, [((4, 0), .inl (0, 4, 0)), ((0, 1003), .inl (1, 4, 1)), ((3, 0), .inl (0, 3, 0)), ((2, 0), .inl (0, 4, 0)), ((1, 0), .inl (1, 100, 0)), ((0, 0), .inr (.inr 11))], [(0, (0, 0), 1), (1, (3, 0), 0), (0, (0, 0), 1), (1, (4, 0), 0)])]
theorem ck_X11_first : cw_chk cw_Ds [kk_X11_unlatchedWeeks, kk_X9_choose, kk_X9_gateAt, kk_X9_tell] mt_X11_first kk_X11_first cw_dp cc_X11_first 4 2000 = true := by decide +kernel
def cc_X11_wind : List cw_G := [(80, [((11, 0), .inl (0, 10, 0)), ((10, 0), .inl cw_top), ((8, 0), .inr (.inl cw_topL)), ((5, 0), .inl (-99999, 99999, 0)), ((7, 0), .inl (1, 1, 1)), ((6, 0), .inl (1, 1, 1)), ((2, 0), .inl (0, 2147483647, 0)), ((1, 0), .inl (0, 3, 0)), ((4, 0), .inl (1, 99, 0)), ((3, 0), .inl (1, 100, 0)), ((0, 0), .inr (.inr 11))], [(0, (0, 0), 1), (1, (11, 0), 0), (0, (0, 0), 99), (0, (0, 0), 0)]),
    (112, [((13, 0), .inl (0, 100, 0)), ((12, 0), .inl cw_top), ((11, 0), .inl (0, 9, 0)), ((10, 0), .inl cw_top), ((8, 0), .inr (.inl cw_topL)), ((5, 0), .inl (-99999, 99999, 0)), ((7, 0), .inl (1, 1, 1)), ((6, 0), .inl (1, 1, 1)), ((2, 0), .inl (0, 2147483647, 0)), ((1, 0), .inl (0, 3, 0)), ((4, 0), .inl (1, 99, 0)), ((3, 0), .inl (1, 100, 0)), ((0, 0), .inr (.inr 11))], [(0, (0, 0), 1), (1, (11, 0), 0), (0, (0, 0), 1), (1, (13, 0), 0)])]
theorem ck_X11_wind : cw_chk cw_Ds [kk_X11_isBound, kk_X11_isGate, kk_X1_copy, kk_X1_drop, kk_X2_pass] mt_X11_wind kk_X11_wind cw_dp cc_X11_wind 4 2000 = true := by decide +kernel
def cc_X11_keep : List cw_G := [(2, [((1, 0), .inl (0, 4, 0)), ((0, 0), .inr (.inr 11)), ((0, 11), .inl (-1, 2000, 0))], [(0, (0, 0), 1), (1, (1, 0), 0)])]
theorem ck_X11_keep : cw_chk cw_Ds [kk_X1_copy] mt_X11_keep kk_X11_keep cw_dp cc_X11_keep 2 2000 = true := by decide +kernel
def cc_X11_back : List cw_G := [(12, [((1, 0), .inl (0, 4, 0)), ((0, 11), .inl (0, 2000, 0)), ((0, 0), .inr (.inr 11)), ((0, 9), .inl (0, 2000, 0))], [(0, (0, 0), 1), (1, (1, 0), 0)])]
theorem ck_X11_back : cw_chk cw_Ds [kk_X10_clear, kk_X1_copy] mt_X11_back kk_X11_back cw_dp cc_X11_back 2 2000 = true := by decide +kernel
def cc_X11_costOfAllDone : List cw_G := [(4, [((2, 0), .inl (0, 4, 0)), ((1, 0), .inl cw_top), ((0, 0), .inr (.inr 11))], [(0, (0, 0), 1), (1, (2, 0), 0)])]
theorem ck_X11_costOfAllDone : cw_chk cw_Ds [kk_X4_costOf] mt_X11_costOfAllDone kk_X11_costOfAllDone cw_dp cc_X11_costOfAllDone 2 2000 = true := by decide +kernel
def cc_X11_count : List cw_G := []
theorem ck_X11_count : cw_chk cw_Ds [kk_X11_costOfAllDone, kk_X3_knownCount] mt_X11_count kk_X11_count cw_dp cc_X11_count 0 2000 = true := by decide +kernel
def cc_X12_isOf : List cw_G := []
theorem ck_X12_isOf : cw_chk cw_Ds [] mt_X12_isOf kk_X12_isOf cw_dp cc_X12_isOf 0 2000 = true := by decide +kernel
def cc_X12_sizeOf : List cw_G := []
theorem ck_X12_sizeOf : cw_chk cw_Ds [] mt_X12_sizeOf kk_X12_sizeOf cw_dp cc_X12_sizeOf 0 2000 = true := by decide +kernel
def cc_X12_wrong : List cw_G := []
theorem ck_X12_wrong : cw_chk cw_Ds [] mt_X12_wrong kk_X12_wrong cw_dp cc_X12_wrong 0 2000 = true := by decide +kernel
def cc_X12_packed : List cw_G := [(5, [((4, 0), .inl (0, 906, 0)), ((3, 0), .inl cw_top), ((0, 0), .inr (.inr 12)), ((1, 0), .inl (0, 900, 0)), ((2, 0), .inl (0, 900, 0))], [(0, (0, 0), 1), (1, (4, 0), 0)])]
theorem ck_X12_packed : cw_chk cw_Ds [] mt_X12_packed kk_X12_packed cw_dp cc_X12_packed 2 2000 = true := by decide +kernel
def cc_X12_isSign : List cw_G := []
theorem ck_X12_isSign : cw_chk cw_Ds [] mt_X12_isSign kk_X12_isSign cw_dp cc_X12_isSign 0 2000 = true := by decide +kernel
def cc_X12_number : List cw_G := []
theorem ck_X12_number : cw_chk cw_Ds [kk_X12_isIn, kk_X12_token, kk_X12_wrong] mt_X12_number kk_X12_number cw_dp cc_X12_number 0 2000 = true := by decide +kernel
def cc_X12_signed : List cw_G := []
theorem ck_X12_signed : cw_chk cw_Ds [kk_X12_isSign, kk_X12_number, kk_X12_token] mt_X12_signed kk_X12_signed cw_dp cc_X12_signed 0 2000 = true := by decide +kernel
def cc_X12_numbers : List cw_G := [(3, [((6, 0), .inl (0, 12, 0)), ((0, 0), .inr (.inr 12)), ((1, 0), .inr (.inr 53)), ((2, 0), .inl (12, 12, 0)), ((3, 0), .inl (12, 12, 0)), ((4, 0), .inl cw_top), ((5, 0), .inl cw_top)], [(0, (0, 0), 1), (1, (6, 0), 0)])]
theorem ck_X12_numbers : cw_chk cw_Ds [kk_X12_number] mt_X12_numbers kk_X12_numbers cw_dp cc_X12_numbers 2 2000 = true := by decide +kernel
def cc_X12_numbers_1 : List cw_G := [(3, [((6, 0), .inl (0, 9, 0)), ((0, 0), .inr (.inr 12)), ((1, 0), .inr (.inr 59)), ((2, 0), .inl (36, 63, 0)), ((3, 0), .inl (9, 9, 0)), ((4, 0), .inl cw_top), ((5, 0), .inl cw_top)], [(0, (0, 0), 1), (1, (6, 0), 0)])]
theorem ck_X12_numbers_1 : cw_chk cw_Ds [kk_X12_number] mt_X12_numbers kk_X12_numbers_1 cw_dp cc_X12_numbers_1 2 2000 = true := by decide +kernel
def cc_X12_find : List cw_G := [(3, [((4, 0), .inl (0, 4, 0)), ((0, 0), .inr (.inr 57)), ((1, 0), .inl (0, 4, 0)), ((2, 0), .inl (0, 4, 0)), ((3, 0), .inl cw_top)], [(0, (0, 0), 1), (1, (4, 0), 0)])]
theorem ck_X12_find : cw_chk cw_Ds [] mt_X12_find kk_X12_find cw_dp cc_X12_find 2 2000 = true := by decide +kernel
def cc_X12_find_1 : List cw_G := [(3, [((4, 0), .inl (0, 6, 0)), ((0, 0), .inr (.inr 60)), ((1, 0), .inl (0, 6, 0)), ((2, 0), .inl (0, 6, 0)), ((3, 0), .inl cw_top)], [(0, (0, 0), 1), (1, (4, 0), 0)])]
theorem ck_X12_find_1 : cw_chk cw_Ds [] mt_X12_find kk_X12_find_1 cw_dp cc_X12_find_1 2 2000 = true := by decide +kernel
def cc_X12_find_2 : List cw_G := [(3, [((4, 0), .inl (0, 6, 0)), ((0, 0), .inr (.inr 62)), ((1, 0), .inl (0, 6, 0)), ((2, 0), .inl (0, 6, 0)), ((3, 0), .inl cw_top)], [(0, (0, 0), 1), (1, (4, 0), 0)])]
theorem ck_X12_find_2 : cw_chk cw_Ds [] mt_X12_find kk_X12_find_2 cw_dp cc_X12_find_2 2 2000 = true := by decide +kernel
def cc_X12_newName : List cw_G := []
theorem ck_X12_newName : cw_chk cw_Ds [kk_X12_find, kk_X12_token, kk_X12_wrong] mt_X12_newName kk_X12_newName cw_dp cc_X12_newName 0 2000 = true := by decide +kernel
def cc_X12_newName_1 : List cw_G := []
theorem ck_X12_newName_1 : cw_chk cw_Ds [kk_X12_find_1, kk_X12_token, kk_X12_wrong] mt_X12_newName kk_X12_newName_1 cw_dp cc_X12_newName_1 0 2000 = true := by decide +kernel
def cc_X12_newName_2 : List cw_G := []
theorem ck_X12_newName_2 : cw_chk cw_Ds [kk_X12_find_2, kk_X12_token, kk_X12_wrong] mt_X12_newName kk_X12_newName_2 cw_dp cc_X12_newName_2 0 2000 = true := by decide +kernel
def cc_X12_groundLine : List cw_G := []
theorem ck_X12_groundLine : cw_chk cw_Ds [kk_X12_numbers, kk_X12_token, kk_X12_wrong] mt_X12_groundLine kk_X12_groundLine cw_dp cc_X12_groundLine 0 2000 = true := by decide +kernel
def cc_X12_workWord : List cw_G := []
theorem ck_X12_workWord : cw_chk cw_Ds [kk_X12_isIn] mt_X12_workWord kk_X12_workWord cw_dp cc_X12_workWord 0 2000 = true := by decide +kernel
def cc_X12_mostOf : List cw_G := []
theorem ck_X12_mostOf : cw_chk cw_Ds [] mt_X12_mostOf kk_X12_mostOf cw_dp cc_X12_mostOf 0 2000 = true := by decide +kernel
def cc_X12_workLine : List cw_G := []
theorem ck_X12_workLine : cw_chk cw_Ds [kk_X12_mostOf, kk_X12_newName_1, kk_X12_number, kk_X12_token, kk_X12_workWord, kk_X12_wrong] mt_X12_workLine kk_X12_workLine cw_dp cc_X12_workLine 0 2000 = true := by decide +kernel
def cc_X12_fault : List cw_G := []
theorem ck_X12_fault : cw_chk cw_Ds [] mt_X12_fault kk_X12_fault cw_dp cc_X12_fault 0 2000 = true := by decide +kernel
def cc_X12_named : List cw_G := []
theorem ck_X12_named : cw_chk cw_Ds [kk_X12_find, kk_X12_find_1, kk_X12_find_2] mt_X12_named kk_X12_named cw_dp cc_X12_named 0 2000 = true := by decide +kernel
def cc_X12_lays : List cw_G := [(3, [((4, 0), .inl (0, 16, 0)), ((0, 0), .inr (.inr 70)), ((1, 0), .inl (0, 0, 0)), ((2, 0), .inr (.inr 69)), ((3, 0), .inl (0, 48, 0))], [(0, (0, 0), 1), (1, (4, 0), 0)])]
theorem ck_X12_lays : cw_chk cw_Ds [] mt_X12_lays kk_X12_lays cw_dp cc_X12_lays 2 2000 = true := by decide +kernel
def cc_X12_lays_1 : List cw_G := [(3, [((4, 0), .inl (0, 16, 0)), ((0, 0), .inr (.inr 69)), ((1, 0), .inl (0, 48, 0)), ((2, 0), .inr (.inr 70)), ((3, 0), .inl (0, 0, 0))], [(0, (0, 0), 1), (1, (4, 0), 0)])]
theorem ck_X12_lays_1 : cw_chk cw_Ds [] mt_X12_lays kk_X12_lays_1 cw_dp cc_X12_lays_1 2 2000 = true := by decide +kernel
def cc_X12_lays_2 : List cw_G := [(3, [((4, 0), .inl (0, 16, 0)), ((0, 0), .inr (.inr 69)), ((1, 0), .inl (0, 48, 0)), ((2, 0), .inr (.inr 74)), ((3, 0), .inl (1, 324, 0))], [(0, (0, 0), 1), (1, (4, 0), 0)])]
theorem ck_X12_lays_2 : cw_chk cw_Ds [] mt_X12_lays kk_X12_lays_2 cw_dp cc_X12_lays_2 2 2000 = true := by decide +kernel
def cc_X12_lays_3 : List cw_G := [(3, [((4, 0), .inl (0, 16, 0)), ((0, 0), .inr (.inr 70)), ((1, 0), .inl (0, 0, 0)), ((2, 0), .inr (.inr 86)), ((3, 0), .inl (0, 48, 0))], [(0, (0, 0), 1), (1, (4, 0), 0)])]
theorem ck_X12_lays_3 : cw_chk cw_Ds [] mt_X12_lays kk_X12_lays_3 cw_dp cc_X12_lays_3 2 2000 = true := by decide +kernel
def cc_X12_lays_4 : List cw_G := [(3, [((4, 0), .inl (0, 16, 0)), ((0, 0), .inr (.inr 86)), ((1, 0), .inl (0, 48, 0)), ((2, 0), .inr (.inr 70)), ((3, 0), .inl (0, 0, 0))], [(0, (0, 0), 1), (1, (4, 0), 0)])]
theorem ck_X12_lays_4 : cw_chk cw_Ds [] mt_X12_lays kk_X12_lays_4 cw_dp cc_X12_lays_4 2 2000 = true := by decide +kernel
def cc_X12_lays_5 : List cw_G := [(3, [((4, 0), .inl (0, 16, 0)), ((0, 0), .inr (.inr 86)), ((1, 0), .inl (0, 48, 0)), ((2, 0), .inr (.inr 69)), ((3, 0), .inl (0, 48, 0))], [(0, (0, 0), 1), (1, (4, 0), 0)])]
theorem ck_X12_lays_5 : cw_chk cw_Ds [] mt_X12_lays kk_X12_lays_5 cw_dp cc_X12_lays_5 2 2000 = true := by decide +kernel
def cc_X12_lays_6 : List cw_G := [(3, [((4, 0), .inl (0, 16, 0)), ((0, 0), .inr (.inr 87)), ((1, 0), .inl (0, 48, 0)), ((2, 0), .inr (.inr 69)), ((3, 0), .inl (0, 48, 0))], [(0, (0, 0), 1), (1, (4, 0), 0)])]
theorem ck_X12_lays_6 : cw_chk cw_Ds [] mt_X12_lays kk_X12_lays_6 cw_dp cc_X12_lays_6 2 2000 = true := by decide +kernel
def cc_X12_lays_7 : List cw_G := [(3, [((4, 0), .inl (0, 16, 0)), ((0, 0), .inr (.inr 69)), ((1, 0), .inl (0, 48, 0)), ((2, 0), .inr (.inr 87)), ((3, 0), .inl (0, 48, 0))], [(0, (0, 0), 1), (1, (4, 0), 0)])]
theorem ck_X12_lays_7 : cw_chk cw_Ds [] mt_X12_lays kk_X12_lays_7 cw_dp cc_X12_lays_7 2 2000 = true := by decide +kernel
def cc_X12_begins : List cw_G := [(2, [((2, 0), .inl (0, 16, 0)), ((0, 0), .inr (.inr 12)), ((1, 0), .inl (0, 3, 0))], [(0, (0, 0), 1), (1, (2, 0), 0)])]
theorem ck_X12_begins : cw_chk cw_Ds [] mt_X12_begins kk_X12_begins cw_dp cc_X12_begins 2 2000 = true := by decide +kernel
def cc_X12_loads : List cw_G := []
theorem ck_X12_loads : cw_chk cw_Ds [kk_X12_lays] mt_X12_loads kk_X12_loads cw_dp cc_X12_loads 0 2000 = true := by decide +kernel
def cc_X12_pullOf : List cw_G := []
theorem ck_X12_pullOf : cw_chk cw_Ds [kk_X12_spanOf] mt_X12_pullOf kk_X12_pullOf cw_dp cc_X12_pullOf 0 2000 = true := by decide +kernel
def cc_X12_dropOf : List cw_G := []
theorem ck_X12_dropOf : cw_chk cw_Ds [kk_X12_partOf] mt_X12_dropOf kk_X12_dropOf cw_dp cc_X12_dropOf 0 2000 = true := by decide +kernel
def cc_X12_firmOf : List cw_G := []
theorem ck_X12_firmOf : cw_chk cw_Ds [] mt_X12_firmOf kk_X12_firmOf cw_dp cc_X12_firmOf 0 2000 = true := by decide +kernel
def cc_X12_bounded : List cw_G := []
theorem ck_X12_bounded : cw_chk cw_Ds [] mt_X12_bounded kk_X12_bounded cw_dp cc_X12_bounded 0 2000 = true := by decide +kernel
def cc_X12_compares : List cw_G := []
theorem ck_X12_compares : cw_chk cw_Ds [] mt_X12_compares kk_X12_compares cw_dp cc_X12_compares 0 2000 = true := by decide +kernel
def cc_X12_times : List cw_G := []
theorem ck_X12_times : cw_chk cw_Ds [] mt_X12_times kk_X12_times cw_dp cc_X12_times 0 2000 = true := by decide +kernel
def cc_X12_layNames : List cw_G := []
theorem ck_X12_layNames : cw_chk cw_Ds [kk_X12_dropOf, kk_X12_firmOf, kk_X12_pullOf] mt_X12_layNames kk_X12_layNames cw_dp cc_X12_layNames 0 2000 = true := by decide +kernel
def cc_X12_goes : List cw_G := [(9, [((3, 0), .inl (0, 3, 0)), ((0, 0), .inr (.inr 12)), ((1, 0), .inl (0, 3, 2)), ((2, 0), .inl (0, 4000, 0))], [(0, (0, 0), 3), (1, (3, 0), 0)]),
    (63, [((3, 0), .inl (0, 6, 0)), ((0, 0), .inr (.inr 12)), ((1, 0), .inl (0, 3, 2)), ((2, 0), .inl (0, 4000, 0))], [(0, (0, 0), 2), (1, (3, 0), 0)]),
    (122, [((3, 0), .inl (0, 3, 0)), ((0, 15), .inl (0, 6, 0)), ((0, 0), .inr (.inr 12)), ((1, 0), .inl (0, 3, 2)), ((2, 0), .inl (0, 4000, 0))], [(0, (0, 0), 1), (1, (3, 0), 0)])]
theorem ck_X12_goes : cw_chk cw_Ds [kk_X12_isOf, kk_X12_lawOf, kk_X12_layNames] mt_X12_goes kk_X12_goes cw_dp cc_X12_goes 2 2000 = true := by decide +kernel
def cc_X12_goesOn : List cw_G := [(2, [((3, 0), .inl (0, 520, 0)), ((0, 0), .inr (.inr 12)), ((1, 0), .inl (0, 3, 2)), ((2, 0), .inl (0, 520, 0))], [(0, (0, 0), 1), (1, (3, 0), 0)])]
theorem ck_X12_goesOn : cw_chk cw_Ds [kk_X12_goes] mt_X12_goesOn kk_X12_goesOn cw_dp cc_X12_goesOn 2 2000 = true := by decide +kernel
def cc_X12_isGate : List cw_G := []
theorem ck_X12_isGate : cw_chk cw_Ds [] mt_X12_isGate kk_X12_isGate cw_dp cc_X12_isGate 0 2000 = true := by decide +kernel
def cc_X12_fails : List cw_G := []
theorem ck_X12_fails : cw_chk cw_Ds [] mt_X12_fails kk_X12_fails cw_dp cc_X12_fails 0 2000 = true := by decide +kernel
def cc_X12_look : List cw_G := []
theorem ck_X12_look : cw_chk cw_Ds [kk_X12_fails, kk_X12_isGate, kk_X12_loads, kk_X12_pullOf, kk_X12_spanOf] mt_X12_look kk_X12_look cw_dp cc_X12_look 0 2000 = true := by decide +kernel
def cc_X12_works : List cw_G := []
theorem ck_X12_works : cw_chk cw_Ds [kk_X12_isIn] mt_X12_works kk_X12_works cw_dp cc_X12_works 0 2000 = true := by decide +kernel
def cc_X12_firm : List cw_G := []
theorem ck_X12_firm : cw_chk cw_Ds [kk_X12_firmOf, kk_X12_isIn] mt_X12_firm kk_X12_firm cw_dp cc_X12_firm 0 2000 = true := by decide +kernel
def cc_X12_sags : List cw_G := []
theorem ck_X12_sags : cw_chk cw_Ds [kk_X12_dropOf, kk_X12_isGate, kk_X12_isIn, kk_X12_loads, kk_X12_partOf] mt_X12_sags kk_X12_sags cw_dp cc_X12_sags 0 2000 = true := by decide +kernel
def cc_X12_isLatched : List cw_G := []
theorem ck_X12_isLatched : cw_chk cw_Ds [kk_X12_dropOf] mt_X12_isLatched kk_X12_isLatched cw_dp cc_X12_isLatched 0 2000 = true := by decide +kernel
def cc_X12_latched : List cw_G := []
theorem ck_X12_latched : cw_chk cw_Ds [kk_X12_isGate, kk_X12_isLatched, kk_X12_loads] mt_X12_latched kk_X12_latched cw_dp cc_X12_latched 0 2000 = true := by decide +kernel
def cc_X12_gives : List cw_G := [(24, [((3, 0), .inl (1, 3, 0)), ((2, 0), .inl (0, 2, 0)), ((1, 0), .inl (0, 3, 2)), ((0, 3), .inl (0, 0, 0)), ((0, 0), .inr (.inr 12))], [(0, (0, 0), 1), (1, (3, 0), 0)])]
theorem ck_X12_gives : cw_chk cw_Ds [kk_X12_isGate, kk_X12_loads, kk_X12_partOf] mt_X12_gives kk_X12_gives cw_dp cc_X12_gives 2 2000 = true := by decide +kernel
def cc_X12_does : List cw_G := []
theorem ck_X12_does : cw_chk cw_Ds [] mt_X12_does kk_X12_does cw_dp cc_X12_does 0 2000 = true := by decide +kernel
def cc_X12_undo : List cw_G := []
theorem ck_X12_undo : cw_chk cw_Ds [kk_X12_lays_2] mt_X12_undo kk_X12_undo cw_dp cc_X12_undo 0 2000 = true := by decide +kernel
def cc_X12_isBound : List cw_G := []
theorem ck_X12_isBound : cw_chk cw_Ds [kk_X12_isIn] mt_X12_isBound kk_X12_isBound cw_dp cc_X12_isBound 0 2000 = true := by decide +kernel
def cc_X12_lasts : List cw_G := [(32, [((4, 0), .inl (0, 1, 0)), ((3, 0), .inl (0, 1000, 0)), ((2, 0), .inl (-99999, 99999, 0)), ((1, 0), .inl (0, 3, 2)), ((0, 3), .inl (0, 0, 0)), ((0, 0), .inr (.inr 12))], [(0, (0, 0), 1), (1, (3, 0), 0)])]
theorem ck_X12_lasts : cw_chk cw_Ds [kk_X12_dropOf, kk_X12_goes, kk_X12_isBound, kk_X12_isGate, kk_X12_loads] mt_X12_lasts kk_X12_lasts cw_dp cc_X12_lasts 2 2000 = true := by decide +kernel
def cc_X12_costOf : List cw_G := [(4, [((3, 0), .inl (0, 6, 0)), ((2, 0), .inl cw_top), ((0, 0), .inr (.inr 12)), ((1, 0), .inl cw_top)], [(0, (0, 0), 1), (1, (3, 0), 0)])]
theorem ck_X12_costOf : cw_chk cw_Ds [kk_X12_isOf] mt_X12_costOf kk_X12_costOf cw_dp cc_X12_costOf 2 2000 = true := by decide +kernel
def cc_X12_least : List cw_G := [(49, [((6, 0), .inl (0, 2147483647, 0)), ((5, 0), .inl (-1, 2147483646, 0)), ((4, 0), .inl (0, 1, 0)), ((3, 0), .inl (-99999, 99999, 0)), ((2, 0), .inl (0, 520, 0)), ((1, 0), .inl (0, 3, 2)), ((0, 3), .inl (0, 0, 0)), ((0, 0), .inr (.inr 12))], [(0, (0, 0), 1), (1, (6, 0), 0), (0, (0, 0), 99), (0, (0, 0), 0)]),
    (109, [((7, 0), .inl (0, 6, 0)), ((5, 0), .inl (-1, 2147483646, 0)), ((6, 0), .inl (0, 2147483646, 0)), ((4, 0), .inl (0, 1, 0)), ((3, 0), .inl (-99999, 99999, 0)), ((2, 0), .inl (0, 520, 0)), ((1, 0), .inl (0, 3, 2)), ((0, 3), .inl (0, 0, 0)), ((0, 0), .inr (.inr 12))], [(0, (0, 0), 1), (1, (6, 0), 0), (0, (0, 0), 1), (1, (7, 0), 0)])]
theorem ck_X12_least : cw_chk cw_Ds [kk_X12_costOf, kk_X12_does, kk_X12_dropOf, kk_X12_goesOn, kk_X12_isBound, kk_X12_isGate, kk_X12_isIn, kk_X12_isOf, kk_X12_loads] mt_X12_least kk_X12_least cw_dp cc_X12_least 4 2000 = true := by decide +kernel
def cc_X12_dropBy : List cw_G := []
theorem ck_X12_dropBy : cw_chk cw_Ds [kk_X12_dropOf, kk_X12_goesOn, kk_X12_loads] mt_X12_dropBy kk_X12_dropBy cw_dp cc_X12_dropBy 0 2000 = true := by decide +kernel
def cc_X12_way : List cw_G := []
theorem ck_X12_way : cw_chk cw_Ds [kk_X12_dropBy, kk_X12_isGate, kk_X12_isIn] mt_X12_way kk_X12_way cw_dp cc_X12_way 0 2000 = true := by decide +kernel
def cc_X12_enough : List cw_G := [(37, [((4, 0), .inl (12, 61, 0)), ((3, 0), .inl (-99999, 99999, 0)), ((2, 0), .inl (0, 520, 0)), ((1, 0), .inl (0, 3, 2)), ((0, 3), .inl (0, 0, 0)), ((0, 0), .inr (.inr 12))], [(0, (0, 0), 1), (1, (4, 0), 0)])]
theorem ck_X12_enough : cw_chk cw_Ds [kk_X12_goesOn, kk_X12_isBound, kk_X12_isGate, kk_X12_isIn, kk_X12_loads] mt_X12_enough kk_X12_enough cw_dp cc_X12_enough 2 2000 = true := by decide +kernel
def cc_X12_bears : List cw_G := [(38, [((4, 0), .inl (-1, 200, 0)), ((3, 0), .inl (-99999, 99999, 0)), ((2, 0), .inl (0, 520, 0)), ((1, 0), .inl (0, 3, 2)), ((0, 3), .inl (0, 0, 0)), ((0, 0), .inr (.inr 12))], [(0, (0, 0), 1), (2, (4, 0), 0)])]
theorem ck_X12_bears : cw_chk cw_Ds [kk_X12_dropOf, kk_X12_goesOn, kk_X12_isBound, kk_X12_isGate, kk_X12_isIn, kk_X12_loads] mt_X12_bears kk_X12_bears cw_dp cc_X12_bears 2 2000 = true := by decide +kernel
def cc_X12_knock : List cw_G := []
theorem ck_X12_knock : cw_chk cw_Ds [kk_X12_isGate, kk_X12_isIn, kk_X12_lawOf, kk_X12_layNames, kk_X12_loads] mt_X12_knock kk_X12_knock cw_dp cc_X12_knock 0 2000 = true := by decide +kernel
def cc_X12_known : List cw_G := []
theorem ck_X12_known : cw_chk cw_Ds [kk_X12_isIn] mt_X12_known kk_X12_known cw_dp cc_X12_known 0 2000 = true := by decide +kernel
def cc_X12_knownMany : List cw_G := []
theorem ck_X12_knownMany : cw_chk cw_Ds [] mt_X12_knownMany kk_X12_knownMany cw_dp cc_X12_knownMany 0 2000 = true := by decide +kernel
def cc_X12_beginsBy : List cw_G := []
theorem ck_X12_beginsBy : cw_chk cw_Ds [kk_X12_begins] mt_X12_beginsBy kk_X12_beginsBy cw_dp cc_X12_beginsBy 0 2000 = true := by decide +kernel
def cc_X12_valueNow : List cw_G := []
theorem ck_X12_valueNow : cw_chk cw_Ds [kk_X12_dropOf] mt_X12_valueNow kk_X12_valueNow cw_dp cc_X12_valueNow 0 2000 = true := by decide +kernel
def cc_X12_isSo : List cw_G := [(2, [((3, 0), .inl (0, 40, 0)), ((0, 0), .inr (.inr 12)), ((1, 0), .inl (0, 3, 2)), ((2, 0), .inl cw_top)], [(0, (0, 0), 1), (1, (3, 0), 0)])]
theorem ck_X12_isSo : cw_chk cw_Ds [kk_X12_isIn, kk_X12_knownMany, kk_X12_valueNow] mt_X12_isSo kk_X12_isSo cw_dp cc_X12_isSo 2 2000 = true := by decide +kernel
def cc_X12_isFit : List cw_G := [(5, [((4, 0), .inl (0, 40, 0)), ((3, 0), .inl (-1, 1999, 0)), ((0, 0), .inr (.inr 12)), ((1, 0), .inl (0, 3, 2)), ((2, 0), .inl cw_top)], [(0, (0, 0), 2), (1, (4, 0), 0)]),
    (76, [((5, 0), .inl (0, 2000, 0)), ((4, 0), .inl (0, 1, 0)), ((3, 0), .inl (-1, 1999, 0)), ((0, 0), .inr (.inr 12)), ((1, 0), .inl (0, 3, 2)), ((2, 0), .inl cw_top)], [(0, (0, 0), 1), (1, (5, 0), 0)])]
theorem ck_X12_isFit : cw_chk cw_Ds [kk_X12_beginsBy, kk_X12_goes, kk_X12_isSo, kk_X12_knownMany] mt_X12_isFit kk_X12_isFit cw_dp cc_X12_isFit 2 2000 = true := by decide +kernel
def cc_X12_fitting : List cw_G := [(8, [((3, 0), .inl (0, 7, 0)), ((2, 0), .inl cw_top), ((0, 0), .inr (.inr 12)), ((1, 0), .inl (0, 3, 2))], [(0, (0, 0), 1), (1, (3, 0), 0)])]
theorem ck_X12_fitting : cw_chk cw_Ds [kk_X12_isFit, kk_X12_layCounts] mt_X12_fitting kk_X12_fitting cw_dp cc_X12_fitting 2 2000 = true := by decide +kernel
def cc_X12_fits : List cw_G := []
theorem ck_X12_fits : cw_chk cw_Ds [kk_X12_fitting, kk_X12_isGate] mt_X12_fits kk_X12_fits cw_dp cc_X12_fits 0 2000 = true := by decide +kernel
def cc_X12_weightOf : List cw_G := []
theorem ck_X12_weightOf : cw_chk cw_Ds [] mt_X12_weightOf kk_X12_weightOf cw_dp cc_X12_weightOf 0 2000 = true := by decide +kernel
def cc_X12_heaviest : List cw_G := [(3, [((4, 0), .inl (0, 7, 0)), ((0, 0), .inr (.inr 12)), ((1, 0), .inl (0, 3, 2)), ((2, 0), .inl cw_top), ((3, 0), .inl (0, 3, 0))], [(0, (0, 0), 2), (1, (4, 0), 0), (0, (0, 0), 99), (0, (0, 0), 0)]),
    (22, [((5, 0), .inl (0, 2000, 0)), ((0, 15), .inl (0, 6, 0)), ((4, 0), .inl (0, 6, 0)), ((0, 0), .inr (.inr 12)), ((1, 0), .inl (0, 3, 2)), ((2, 0), .inl cw_top), ((3, 0), .inl (0, 3, 0))], [(0, (0, 0), 2), (1, (4, 0), 0), (0, (0, 0), 1), (1, (5, 0), 0)]),
    (69, [((5, 0), .inl (0, 7, 0)), ((4, 0), .inl (0, 2147483647, 0)), ((0, 15), .inl (0, 6, 0)), ((0, 0), .inr (.inr 12)), ((1, 0), .inl (0, 3, 2)), ((2, 0), .inl cw_top), ((3, 0), .inl (0, 3, 0))], [(0, (0, 0), 1), (1, (5, 0), 0), (0, (0, 0), 99), (0, (0, 0), 0)]),
    (84, [((7, 0), .inl (0, 7, 0)), ((6, 0), .inl cw_top), ((0, 15), .inl (0, 6, 0)), ((5, 0), .inl (0, 6, 0)), ((4, 0), .inl (0, 2147483647, 0)), ((0, 0), .inr (.inr 12)), ((1, 0), .inl (0, 3, 2)), ((2, 0), .inl cw_top), ((3, 0), .inl (0, 3, 0))], [(0, (0, 0), 1), (1, (5, 0), 0), (0, (0, 0), 1), (1, (7, 0), 0)])]
theorem ck_X12_heaviest : cw_chk cw_Ds [kk_X12_beginsBy, kk_X12_goes, kk_X12_isOf, kk_X12_valueNow, kk_X12_weightOf] mt_X12_heaviest kk_X12_heaviest cw_dp cc_X12_heaviest 4 2000 = true := by decide +kernel
def cc_X12_test : List cw_G := [(36, [((5, 0), .inl (0, 7, 0)), ((4, 0), .inl cw_top), ((3, 0), .inl cw_top), ((2, 0), .inl (0, 1, 0)), ((1, 0), .inl (0, 3, 2)), ((0, 3), .inl (0, 0, 0)), ((0, 0), .inr (.inr 12))], [(0, (0, 0), 2), (1, (5, 0), 0)]),
    (87, [((7, 0), .inl (0, 4, 0)), ((6, 0), .inl (0, 2147483647, 0)), ((5, 0), .inl (-1, 3, 0)), ((4, 0), .inl (2, 2147483647, 0)), ((0, 15), .inl (0, 6, 0)), ((3, 0), .inl cw_top), ((2, 0), .inl (0, 1, 0)), ((1, 0), .inl (0, 3, 2)), ((0, 3), .inl (0, 0, 0)), ((0, 0), .inr (.inr 12))], [(0, (0, 0), 1), (1, (7, 0), 0)])]
theorem ck_X12_test : cw_chk cw_Ds [kk_X12_fitting, kk_X12_heaviest, kk_X12_isGate, kk_X12_isIn, kk_X12_isOf] mt_X12_test kk_X12_test cw_dp cc_X12_test 2 2000 = true := by decide +kernel
def cc_X12_isAngle : List cw_G := []
theorem ck_X12_isAngle : cw_chk cw_Ds [kk_X12_isIn] mt_X12_isAngle kk_X12_isAngle cw_dp cc_X12_isAngle 0 2000 = true := by decide +kernel
def cc_X12_low : List cw_G := []
theorem ck_X12_low : cw_chk cw_Ds [kk_X12_isAngle, kk_X12_isGate, kk_X12_loads, kk_X12_lowOf] mt_X12_low kk_X12_low cw_dp cc_X12_low 0 2000 = true := by decide +kernel
def cc_X12_rest : List cw_G := [(24, [((3, 0), .inl (1, 9, 0)), ((2, 0), .inl (0, 8, 0)), ((1, 0), .inl (0, 3, 2)), ((0, 3), .inl (0, 0, 0)), ((0, 0), .inr (.inr 12))], [(0, (0, 0), 1), (1, (3, 0), 0)])]
theorem ck_X12_rest : cw_chk cw_Ds [kk_X12_isGate, kk_X12_loads, kk_X12_lowOf] mt_X12_rest kk_X12_rest cw_dp cc_X12_rest 2 2000 = true := by decide +kernel
def cc_X12_shutsFrom : List cw_G := [(4, [((3, 0), .inl (1, 9, 0)), ((2, 0), .inl cw_top), ((0, 0), .inr (.inr 12)), ((1, 0), .inl (0, 3, 2))], [(0, (0, 0), 1), (1, (3, 0), 0)])]
theorem ck_X12_shutsFrom : cw_chk cw_Ds [kk_X12_lowOf] mt_X12_shutsFrom kk_X12_shutsFrom cw_dp cc_X12_shutsFrom 2 2000 = true := by decide +kernel
def cc_X12_shuts : List cw_G := []
theorem ck_X12_shuts : cw_chk cw_Ds [kk_X12_isGate, kk_X12_loads, kk_X12_shutsFrom] mt_X12_shuts kk_X12_shuts cw_dp cc_X12_shuts 0 2000 = true := by decide +kernel
def cc_X12_aboveOf : List cw_G := []
theorem ck_X12_aboveOf : cw_chk cw_Ds [kk_X12_dropOf, kk_X12_lowOf, kk_X12_spanOf] mt_X12_aboveOf kk_X12_aboveOf cw_dp cc_X12_aboveOf 0 2000 = true := by decide +kernel
def cc_X12_above : List cw_G := []
theorem ck_X12_above : cw_chk cw_Ds [kk_X12_aboveOf, kk_X12_isAngle, kk_X12_isGate, kk_X12_loads] mt_X12_above kk_X12_above cw_dp cc_X12_above 0 2000 = true := by decide +kernel
def cc_X12_opensTo : List cw_G := [(2, [((2, 0), .inl (0, 9, 0)), ((0, 0), .inr (.inr 12)), ((1, 0), .inl (0, 3, 2))], [(0, (0, 0), 1), (1, (2, 0), 0)])]
theorem ck_X12_opensTo : cw_chk cw_Ds [kk_X12_aboveOf] mt_X12_opensTo kk_X12_opensTo cw_dp cc_X12_opensTo 2 2000 = true := by decide +kernel
def cc_X12_opens : List cw_G := []
theorem ck_X12_opens : cw_chk cw_Ds [kk_X12_isGate, kk_X12_loads, kk_X12_opensTo] mt_X12_opens kk_X12_opens cw_dp cc_X12_opens 0 2000 = true := by decide +kernel
def cc_X12_stand : List cw_G := [(86, [((10, 0), .inl (-30, 31, 0)), ((9, 0), .inl cw_top), ((8, 0), .inl (-30, 30, 0)), ((7, 0), .inl (-30, 30, 0)), ((6, 0), .inl cw_top), ((5, 0), .inl cw_top), ((4, 0), .inl cw_top), ((3, 0), .inl (0, 1, 0)), ((2, 0), .inl (0, 8, 0)), ((1, 0), .inl (0, 3, 2)), ((0, 3), .inl (0, 0, 0)), ((0, 0), .inr (.inr 12))], [(0, (0, 0), 1), (1, (10, 0), 0), (0, (0, 0), 99), (0, (0, 0), 0)]),
    (97, [((11, 0), .inl (-30, 31, 0)), ((10, 0), .inl (-30, 30, 0)), ((9, 0), .inl cw_top), ((8, 0), .inl (-30, 30, 0)), ((7, 0), .inl (-30, 30, 0)), ((6, 0), .inl cw_top), ((5, 0), .inl cw_top), ((4, 0), .inl cw_top), ((3, 0), .inl (0, 1, 0)), ((2, 0), .inl (0, 8, 0)), ((1, 0), .inl (0, 3, 2)), ((0, 3), .inl (0, 0, 0)), ((0, 0), .inr (.inr 12))], [(0, (0, 0), 1), (1, (10, 0), 0), (0, (0, 0), 1), (1, (11, 0), 0)])]
theorem ck_X12_stand : cw_chk cw_Ds [kk_X12_isAngle, kk_X12_isGate, kk_X12_isIn, kk_X12_loads, kk_X12_opensTo, kk_X12_shutsFrom, kk_X12_sizeOf] mt_X12_stand kk_X12_stand cw_dp cc_X12_stand 4 2000 = true := by decide +kernel
def cc_X12_weekOfAll : List cw_G := [(4, [((3, 0), .inl (0, 4, 0)), ((2, 0), .inl cw_top), ((0, 0), .inr (.inr 12)), ((1, 0), .inl (0, 2400, 0))], [(0, (0, 0), 1), (1, (3, 0), 0)])]
theorem ck_X12_weekOfAll : cw_chk cw_Ds [kk_X12_goes, kk_X12_isLatched, kk_X12_lays_3, kk_X12_lays_4] mt_X12_weekOfAll kk_X12_weekOfAll cw_dp cc_X12_weekOfAll 2 2000 = true := by decide +kernel
def cc_X12_wind : List cw_G := [(58, [((9, 0), .inl (0, 10, 0)), ((8, 0), .inl cw_top), ((6, 0), .inr (.inl cw_topL)), ((5, 0), .inl (-99999, 99999, 0)), ((4, 0), .inl (1, 99, 0)), ((3, 0), .inl (1, 100, 0)), ((2, 0), .inl (0, 2147483647, 0)), ((1, 0), .inl (0, 3, 2)), ((0, 3), .inl (0, 0, 0)), ((0, 0), .inr (.inr 12))], [(0, (0, 0), 1), (1, (9, 0), 0), (0, (0, 0), 99), (0, (0, 0), 0)]),
    (82, [((11, 0), .inl (0, 100, 0)), ((10, 0), .inl cw_top), ((9, 0), .inl (0, 9, 0)), ((8, 0), .inl cw_top), ((6, 0), .inr (.inl cw_topL)), ((5, 0), .inl (-99999, 99999, 0)), ((4, 0), .inl (1, 99, 0)), ((3, 0), .inl (1, 100, 0)), ((2, 0), .inl (0, 2147483647, 0)), ((1, 0), .inl (0, 3, 2)), ((0, 3), .inl (0, 0, 0)), ((0, 0), .inr (.inr 12))], [(0, (0, 0), 1), (1, (9, 0), 0), (0, (0, 0), 1), (1, (11, 0), 0)])]
theorem ck_X12_wind : cw_chk cw_Ds [kk_X12_dropOf, kk_X12_goes, kk_X12_isBound, kk_X12_isGate, kk_X12_isIn, kk_X12_loads] mt_X12_wind kk_X12_wind cw_dp cc_X12_wind 4 2000 = true := by decide +kernel
def cc_X12_keep : List cw_G := [(20, [((1, 0), .inl (0, 4, 0)), ((0, 68), .inl (0, 2000, 0)), ((0, 67), .inl (1, 1, 0)), ((0, 3), .inl (0, 0, 0)), ((0, 0), .inr (.inr 12))], [(0, (0, 0), 1), (1, (1, 0), 0)])]
theorem ck_X12_keep : cw_chk cw_Ds [kk_X12_lays_6] mt_X12_keep kk_X12_keep cw_dp cc_X12_keep 2 2000 = true := by decide +kernel
def cc_X12_back : List cw_G := [(24, [((1, 0), .inl (0, 4, 0)), ((0, 44), .inl (0, 2000, 0)), ((0, 67), .inl (1, 1, 1)), ((0, 3), .inl (0, 0, 0)), ((0, 0), .inr (.inr 12)), ((0, 51), .inl (0, 20, 0))], [(0, (0, 0), 1), (1, (1, 0), 0)])]
theorem ck_X12_back : cw_chk cw_Ds [kk_X12_lays_7] mt_X12_back kk_X12_back cw_dp cc_X12_back 2 2000 = true := by decide +kernel
def cc_X12_count : List cw_G := [(102, [((3, 0), .inl (0, 4, 0)), ((2, 0), .inl cw_top), ((0, 3), .inl (0, 0, 0)), ((0, 0), .inr (.inr 12)), ((1, 0), .inl cw_top)], [(0, (0, 0), 1), (1, (3, 0), 0)])]
theorem ck_X12_count : cw_chk cw_Ds [kk_X12_costOf, kk_X12_knownMany] mt_X12_count kk_X12_count cw_dp cc_X12_count 2 2000 = true := by decide +kernel
