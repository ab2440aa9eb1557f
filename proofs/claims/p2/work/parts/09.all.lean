theorem ok_all : ∀ mi, ∀ q ∈ (mt_all mi).2.1, cv_ok cv_T vwCl mt_all (mt_all mi) q := by
  intro mi q hq
  match mi, hq with
  | 0, hq => exact ok_X0_init q hq
  | 1, hq => exact ok_X0_readInto q hq
  | 2, hq => exact ok_X0_readValue q hq
  | 3, hq => exact ok_X0_openParen q hq
  | 4, hq => exact ok_X0_valueKnot q hq
  | 5, hq => exact ok_X0_nameOf q hq
  | 6, hq => exact ok_X0_readJoint q hq
  | 7, hq => exact ok_X0_signOf q hq
  | 8, hq => exact ok_X0_rankOf q hq
  | 9, hq => exact ok_X0_holdKnot q hq
  | 10, hq => exact ok_X0_hold q hq
  | 11, hq => exact ok_X0_latestHeld q hq
  | 12, hq => exact ok_X0_release q hq
  | 13, hq => exact ok_X1_init q hq
  | 14, hq => exact ok_X1_begin q hq
  | 15, hq => exact ok_X1_setCauses q hq
  | 16, hq => exact ok_X1_copy q hq
  | 17, hq => exact ok_X1_pull q hq
  | 18, hq => exact ok_X1_leanPart q hq
  | 19, hq => exact ok_X1_hooksPart q hq
  | 20, hq => exact ok_X1_drop q hq
  | 21, hq => exact ok_X1_measured q hq
  | 22, hq => exact ok_X1_isLatched q hq
  | 23, hq => exact ok_X1_take q hq
  | 24, hq => exact ok_X1_grow q hq
  | 25, hq => exact ok_X1_lowHung q hq
  | 26, hq => exact ok_X1_aboveHung q hq
  | 27, hq => exact ok_X1_standsWith q hq
  | 28, hq => exact ok_X2_init q hq
  | 29, hq => exact ok_X2_forget q hq
  | 30, hq => exact ok_X2_put q hq
  | 31, hq => exact ok_X2_see q hq
  | 32, hq => exact ok_X2_pass q hq
  | 33, hq => exact ok_X2_refresh q hq
  | 34, hq => exact ok_X2_workOut q hq
  | 35, hq => exact ok_X2_valueOf q hq
  | 36, hq => exact ok_X2_join q hq
  | 37, hq => exact ok_X2_bounded q hq
  | 38, hq => exact ok_X2_times q hq
  | 39, hq => exact ok_X2_by q hq
  | 40, hq => exact ok_X3_init q hq
  | 41, hq => exact ok_X3_clear q hq
  | 42, hq => exact ok_X3_knownCount q hq
  | 43, hq => exact ok_X3_add q hq
  | 44, hq => exact ok_X3_addStrike q hq
  | 45, hq => exact ok_X3_pick q hq
  | 46, hq => exact ok_X3_findStruck q hq
  | 47, hq => exact ok_X3_agree q hq
  | 48, hq => exact ok_X4_init q hq
  | 49, hq => exact ok_X4_clear q hq
  | 50, hq => exact ok_X4_isWork q hq
  | 51, hq => exact ok_X4_isCause q hq
  | 52, hq => exact ok_X4_isLaw q hq
  | 53, hq => exact ok_X4_firmIn q hq
  | 54, hq => exact ok_X4_growthNames q hq
  | 55, hq => exact ok_X4_costOf q hq
  | 56, hq => exact ok_X4_moreBy q hq
  | 57, hq => exact ok_X4_weightOf q hq
  | 58, hq => exact ok_X4_addCode q hq
  | 59, hq => exact ok_X5_init q hq
  | 60, hq => exact ok_X5_readText q hq
  | 61, hq => exact ok_X5_fail q hq
  | 62, hq => exact ok_X5_readSemicolon q hq
  | 63, hq => exact ok_X5_readNumber q hq
  | 64, hq => exact ok_X5_readNewName q hq
  | 65, hq => exact ok_X5_readGround q hq
  | 66, hq => exact ok_X5_readLaw q hq
  | 67, hq => exact ok_X5_readGate q hq
  | 68, hq => exact ok_X5_readPart q hq
  | 69, hq => exact ok_X5_readBrace q hq
  | 70, hq => exact ok_X5_readHas q hq
  | 71, hq => exact ok_X5_readWork q hq
  | 72, hq => exact ok_X5_kindOf q hq
  | 73, hq => exact ok_X5_mostOf q hq
  | 74, hq => exact ok_X5_readCause q hq
  | 75, hq => exact ok_X6_init q hq
  | 76, hq => exact ok_X6_letterBits q hq
  | 77, hq => exact ok_X6_begin q hq
  | 78, hq => exact ok_X6_step q hq
  | 79, hq => exact ok_X6_readLetters q hq
  | 80, hq => exact ok_X6_readDigits q hq
  | 81, hq => exact ok_X6_readSign q hq
  | 82, hq => exact ok_X6_takes q hq
  | 83, hq => exact ok_X6_isWord q hq
  | 84, hq => exact ok_X6_isWordFrom q hq
  | 85, hq => exact ok_X7_init q hq
  | 86, hq => exact ok_X7_clear q hq
  | 87, hq => exact ok_X7_setHeight q hq
  | 88, hq => exact ok_X7_span q hq
  | 89, hq => exact ok_X8_init q hq
  | 90, hq => exact ok_X8_judge q hq
  | 91, hq => exact ok_X8_record q hq
  | 92, hq => exact ok_X8_recorded q hq
  | 93, hq => exact ok_X8_weightOfFitting q hq
  | 94, hq => exact ok_X8_heaviestGroup q hq
  | 95, hq => exact ok_X9_init q hq
  | 96, hq => exact ok_X9_tell q hq
  | 97, hq => exact ok_X9_choose q hq
  | 98, hq => exact ok_X9_sumOf q hq
  | 99, hq => exact ok_X9_gateAt q hq
  | 100, hq => exact ok_X10_init q hq
  | 101, hq => exact ok_X10_clear q hq
  | 102, hq => exact ok_X10_push q hq
  | 103, hq => exact ok_X10_dropEarliest q hq
  | 104, hq => exact ok_X10_latestGate q hq
  | 105, hq => exact ok_X10_popInto q hq
  | 106, hq => exact ok_X11_init q hq
  | 107, hq => exact ok_X11_feed q hq
  | 108, hq => exact ok_X11_putOnTape q hq
  | 109, hq => exact ok_X11_text q hq
  | 110, hq => exact ok_X11_takeSpare q hq
  | 111, hq => exact ok_X11_fault q hq
  | 112, hq => exact ok_X11_named q hq
  | 113, hq => exact ok_X11_placeOf q hq
  | 114, hq => exact ok_X11_isGate q hq
  | 115, hq => exact ok_X11_isBound q hq
  | 116, hq => exact ok_X11_isAhead q hq
  | 117, hq => exact ok_X11_isAngle q hq
  | 118, hq => exact ok_X11_isWeek q hq
  | 119, hq => exact ok_X11_works q hq
  | 120, hq => exact ok_X11_firm q hq
  | 121, hq => exact ok_X11_weeks q hq
  | 122, hq => exact ok_X11_sags q hq
  | 123, hq => exact ok_X11_latched q hq
  | 124, hq => exact ok_X11_gives q hq
  | 125, hq => exact ok_X11_work q hq
  | 126, hq => exact ok_X11_undo q hq
  | 127, hq => exact ok_X11_lasts q hq
  | 128, hq => exact ok_X11_least q hq
  | 129, hq => exact ok_X11_holds q hq
  | 130, hq => exact ok_X11_way q hq
  | 131, hq => exact ok_X11_dropWithBrace q hq
  | 132, hq => exact ok_X11_enough q hq
  | 133, hq => exact ok_X11_bears q hq
  | 134, hq => exact ok_X11_knock q hq
  | 135, hq => exact ok_X11_measure q hq
  | 136, hq => exact ok_X11_strike q hq
  | 137, hq => exact ok_X11_known q hq
  | 138, hq => exact ok_X11_fits q hq
  | 139, hq => exact ok_X11_odds q hq
  | 140, hq => exact ok_X11_test q hq
  | 141, hq => exact ok_X11_low q hq
  | 142, hq => exact ok_X11_rest q hq
  | 143, hq => exact ok_X11_shuts q hq
  | 144, hq => exact ok_X11_above q hq
  | 145, hq => exact ok_X11_opens q hq
  | 146, hq => exact ok_X11_stand q hq
  | 147, hq => exact ok_X11_first q hq
  | 148, hq => exact ok_X11_unlatchedWeeks q hq
  | 149, hq => exact ok_X11_wind q hq
  | 150, hq => exact ok_X11_keep q hq
  | 151, hq => exact ok_X11_back q hq
  | 152, hq => exact ok_X11_count q hq
  | 153, hq => exact ok_X11_costOfAllDone q hq
  | 154, hq => exact ok_X12_init q hq
  | 155, hq => exact ok_X12_feed q hq
  | 156, hq => exact ok_X12_isIn q hq
  | 157, hq => exact ok_X12_isOf q hq
  | 158, hq => exact ok_X12_sizeOf q hq
  | 159, hq => exact ok_X12_wrong q hq
  | 160, hq => exact ok_X12_wordAt q hq
  | 161, hq => exact ok_X12_isSmall q hq
  | 162, hq => exact ok_X12_isDigit q hq
  | 163, hq => exact ok_X12_token q hq
  | 164, hq => exact ok_X12_signToken q hq
  | 165, hq => exact ok_X12_packed q hq
  | 166, hq => exact ok_X12_isKey q hq
  | 167, hq => exact ok_X12_isSign q hq
  | 168, hq => exact ok_X12_number q hq
  | 169, hq => exact ok_X12_signed q hq
  | 170, hq => exact ok_X12_numbers q hq
  | 171, hq => exact ok_X12_plain q hq
  | 172, hq => exact ok_X12_copies q hq
  | 173, hq => exact ok_X12_keepText q hq
  | 174, hq => exact ok_X12_find q hq
  | 175, hq => exact ok_X12_newName q hq
  | 176, hq => exact ok_X12_groundLine q hq
  | 177, hq => exact ok_X12_lawLine q hq
  | 178, hq => exact ok_X12_hasWord q hq
  | 179, hq => exact ok_X12_gateLine q hq
  | 180, hq => exact ok_X12_hasRead q hq
  | 181, hq => exact ok_X12_hooksRead q hq
  | 182, hq => exact ok_X12_causeRead q hq
  | 183, hq => exact ok_X12_workWord q hq
  | 184, hq => exact ok_X12_mostOf q hq
  | 185, hq => exact ok_X12_workLine q hq
  | 186, hq => exact ok_X12_causeLine q hq
  | 187, hq => exact ok_X12_lineRead q hq
  | 188, hq => exact ok_X12_text q hq
  | 189, hq => exact ok_X12_fault q hq
  | 190, hq => exact ok_X12_named q hq
  | 191, hq => exact ok_X12_rank q hq
  | 192, hq => exact ok_X12_grown q hq
  | 193, hq => exact ok_X12_dropHeld q hq
  | 194, hq => exact ok_X12_bind q hq
  | 195, hq => exact ok_X12_isCounted q hq
  | 196, hq => exact ok_X12_waitsFor q hq
  | 197, hq => exact ok_X12_leafRead q hq
  | 198, hq => exact ok_X12_signs q hq
  | 199, hq => exact ok_X12_sumRead q hq
  | 200, hq => exact ok_X12_lays q hq
  | 201, hq => exact ok_X12_begins q hq
  | 202, hq => exact ok_X12_loads q hq
  | 203, hq => exact ok_X12_spanOf q hq
  | 204, hq => exact ok_X12_pullOf q hq
  | 205, hq => exact ok_X12_partOf q hq
  | 206, hq => exact ok_X12_dropOf q hq
  | 207, hq => exact ok_X12_firmOf q hq
  | 208, hq => exact ok_X12_bounded q hq
  | 209, hq => exact ok_X12_compares q hq
  | 210, hq => exact ok_X12_times q hq
  | 211, hq => exact ok_X12_valueOf q hq
  | 212, hq => exact ok_X12_layNames q hq
  | 213, hq => exact ok_X12_lawOf q hq
  | 214, hq => exact ok_X12_goes q hq
  | 215, hq => exact ok_X12_goesOn q hq
  | 216, hq => exact ok_X12_isGate q hq
  | 217, hq => exact ok_X12_fails q hq
  | 218, hq => exact ok_X12_look q hq
  | 219, hq => exact ok_X12_works q hq
  | 220, hq => exact ok_X12_firm q hq
  | 221, hq => exact ok_X12_weeks q hq
  | 222, hq => exact ok_X12_sags q hq
  | 223, hq => exact ok_X12_isLatched q hq
  | 224, hq => exact ok_X12_latched q hq
  | 225, hq => exact ok_X12_gives q hq
  | 226, hq => exact ok_X12_does q hq
  | 227, hq => exact ok_X12_work q hq
  | 228, hq => exact ok_X12_undo q hq
  | 229, hq => exact ok_X12_isBound q hq
  | 230, hq => exact ok_X12_lasts q hq
  | 231, hq => exact ok_X12_costOf q hq
  | 232, hq => exact ok_X12_least q hq
  | 233, hq => exact ok_X12_dropBy q hq
  | 234, hq => exact ok_X12_way q hq
  | 235, hq => exact ok_X12_enough q hq
  | 236, hq => exact ok_X12_bears q hq
  | 237, hq => exact ok_X12_knock q hq
  | 238, hq => exact ok_X12_measure q hq
  | 239, hq => exact ok_X12_strike q hq
  | 240, hq => exact ok_X12_known q hq
  | 241, hq => exact ok_X12_knownMany q hq
  | 242, hq => exact ok_X12_layCounts q hq
  | 243, hq => exact ok_X12_beginsBy q hq
  | 244, hq => exact ok_X12_valueNow q hq
  | 245, hq => exact ok_X12_isSo q hq
  | 246, hq => exact ok_X12_isFit q hq
  | 247, hq => exact ok_X12_fitting q hq
  | 248, hq => exact ok_X12_fits q hq
  | 249, hq => exact ok_X12_weightOf q hq
  | 250, hq => exact ok_X12_common q hq
  | 251, hq => exact ok_X12_odds q hq
  | 252, hq => exact ok_X12_heaviest q hq
  | 253, hq => exact ok_X12_test q hq
  | 254, hq => exact ok_X12_lowOf q hq
  | 255, hq => exact ok_X12_isAngle q hq
  | 256, hq => exact ok_X12_low q hq
  | 257, hq => exact ok_X12_rest q hq
  | 258, hq => exact ok_X12_shutsFrom q hq
  | 259, hq => exact ok_X12_shuts q hq
  | 260, hq => exact ok_X12_aboveOf q hq
  | 261, hq => exact ok_X12_above q hq
  | 262, hq => exact ok_X12_opensTo q hq
  | 263, hq => exact ok_X12_opens q hq
  | 264, hq => exact ok_X12_stand q hq
  | 265, hq => exact ok_X12_nextOrder q hq
  | 266, hq => exact ok_X12_weekOfAll q hq
  | 267, hq => exact ok_X12_sumBy q hq
  | 268, hq => exact ok_X12_first q hq
  | 269, hq => exact ok_X12_wind q hq
  | 270, hq => exact ok_X12_keep q hq
  | 271, hq => exact ok_X12_back q hq
  | 272, hq => exact ok_X12_count q hq
  | 273, hq => exact ok_J6_bitCount_0f7a4 q hq
  | 274, hq => exact ok_J0_length_8abf5 q hq
  | 275, hq => exact ok_J0_charAt_5068e q hq
  | 276, hq => exact ok_J0_coder_7d493 q hq
  | 277, hq => exact ok_J0_isLatin1_aae02 q hq
  | 278, hq => exact ok_J0_checkIndex_df160 q hq
  | 279, hq => exact ok_J1_charAt_3b067 q hq
  | 280, hq => exact ok_J3_checkIndex_8e157 q hq
  | 281, hq => exact ok_L_law q hq
  | j + 282, hq => exact absurd hq (by show ¬ q ∈ ([] : List cv_Q); exact List.not_mem_nil)
theorem in_X0 : ∀ w ∈ u_ws RX0 TX0 8, w ∈ cv_T := by
  have h : (u_ws RX0 TX0 8).all (fun w => decide (w ∈ lw_tbl) && goodWord w) = true := by decide +kernel
  intro w hw
  have := List.all_eq_true.mp h w hw
  simp only [Bool.and_eq_true, decide_eq_true_eq] at this
  exact List.mem_filter.mpr this
theorem kd_X0 : ∀ k, k < 8 → (fk_all.getD 0 [])[k]? = some (cv_kd (tyX0 k)) ∧ cv_kd (tyX0 k) ≤ 4 ∧ cv_kd (tyX0 k) ≠ 1 := by decide +kernel
theorem in_X1 : ∀ w ∈ u_ws RX1 TX1 17, w ∈ cv_T := by
  have h : (u_ws RX1 TX1 17).all (fun w => decide (w ∈ lw_tbl) && goodWord w) = true := by decide +kernel
  intro w hw
  have := List.all_eq_true.mp h w hw
  simp only [Bool.and_eq_true, decide_eq_true_eq] at this
  exact List.mem_filter.mpr this
theorem kd_X1 : ∀ k, k < 17 → (fk_all.getD 1 [])[k]? = some (cv_kd (tyX1 k)) ∧ cv_kd (tyX1 k) ≤ 4 ∧ cv_kd (tyX1 k) ≠ 1 := by decide +kernel
theorem in_X2 : ∀ w ∈ u_ws RX2 TX2 5, w ∈ cv_T := by
  have h : (u_ws RX2 TX2 5).all (fun w => decide (w ∈ lw_tbl) && goodWord w) = true := by decide +kernel
  intro w hw
  have := List.all_eq_true.mp h w hw
  simp only [Bool.and_eq_true, decide_eq_true_eq] at this
  exact List.mem_filter.mpr this
theorem kd_X2 : ∀ k, k < 5 → (fk_all.getD 2 [])[k]? = some (cv_kd (tyX2 k)) ∧ cv_kd (tyX2 k) ≤ 4 ∧ cv_kd (tyX2 k) ≠ 1 := by decide +kernel
theorem in_X3 : ∀ w ∈ u_ws RX3 TX3 11, w ∈ cv_T := by
  have h : (u_ws RX3 TX3 11).all (fun w => decide (w ∈ lw_tbl) && goodWord w) = true := by decide +kernel
  intro w hw
  have := List.all_eq_true.mp h w hw
  simp only [Bool.and_eq_true, decide_eq_true_eq] at this
  exact List.mem_filter.mpr this
theorem kd_X3 : ∀ k, k < 11 → (fk_all.getD 3 [])[k]? = some (cv_kd (tyX3 k)) ∧ cv_kd (tyX3 k) ≤ 4 ∧ cv_kd (tyX3 k) ≠ 1 := by decide +kernel
theorem in_X4 : ∀ w ∈ u_ws RX4 TX4 20, w ∈ cv_T := by
  have h : (u_ws RX4 TX4 20).all (fun w => decide (w ∈ lw_tbl) && goodWord w) = true := by decide +kernel
  intro w hw
  have := List.all_eq_true.mp h w hw
  simp only [Bool.and_eq_true, decide_eq_true_eq] at this
  exact List.mem_filter.mpr this
theorem kd_X4 : ∀ k, k < 20 → (fk_all.getD 4 [])[k]? = some (cv_kd (tyX4 k)) ∧ cv_kd (tyX4 k) ≤ 4 ∧ cv_kd (tyX4 k) ≠ 1 := by decide +kernel
theorem in_X5 : ∀ w ∈ u_ws RX5 TX5 6, w ∈ cv_T := by
  have h : (u_ws RX5 TX5 6).all (fun w => decide (w ∈ lw_tbl) && goodWord w) = true := by decide +kernel
  intro w hw
  have := List.all_eq_true.mp h w hw
  simp only [Bool.and_eq_true, decide_eq_true_eq] at this
  exact List.mem_filter.mpr this
theorem kd_X5 : ∀ k, k < 6 → (fk_all.getD 5 [])[k]? = some (cv_kd (tyX5 k)) ∧ cv_kd (tyX5 k) ≤ 4 ∧ cv_kd (tyX5 k) ≠ 1 := by decide +kernel
theorem in_X6 : ∀ w ∈ u_ws RX6 TX6 7, w ∈ cv_T := by
  have h : (u_ws RX6 TX6 7).all (fun w => decide (w ∈ lw_tbl) && goodWord w) = true := by decide +kernel
  intro w hw
  have := List.all_eq_true.mp h w hw
  simp only [Bool.and_eq_true, decide_eq_true_eq] at this
  exact List.mem_filter.mpr this
theorem kd_X6 : ∀ k, k < 7 → (fk_all.getD 6 [])[k]? = some (cv_kd (tyX6 k)) ∧ cv_kd (tyX6 k) ≤ 4 ∧ cv_kd (tyX6 k) ≠ 1 := by decide +kernel
theorem in_X7 : ∀ w ∈ u_ws RX7 TX7 17, w ∈ cv_T := by
  have h : (u_ws RX7 TX7 17).all (fun w => decide (w ∈ lw_tbl) && goodWord w) = true := by decide +kernel
  intro w hw
  have := List.all_eq_true.mp h w hw
  simp only [Bool.and_eq_true, decide_eq_true_eq] at this
  exact List.mem_filter.mpr this
theorem kd_X7 : ∀ k, k < 17 → (fk_all.getD 7 [])[k]? = some (cv_kd (tyX7 k)) ∧ cv_kd (tyX7 k) ≤ 4 ∧ cv_kd (tyX7 k) ≠ 1 := by decide +kernel
theorem in_X8 : ∀ w ∈ u_ws RX8 TX8 3, w ∈ cv_T := by
  have h : (u_ws RX8 TX8 3).all (fun w => decide (w ∈ lw_tbl) && goodWord w) = true := by decide +kernel
  intro w hw
  have := List.all_eq_true.mp h w hw
  simp only [Bool.and_eq_true, decide_eq_true_eq] at this
  exact List.mem_filter.mpr this
theorem kd_X8 : ∀ k, k < 3 → (fk_all.getD 8 [])[k]? = some (cv_kd (tyX8 k)) ∧ cv_kd (tyX8 k) ≤ 4 ∧ cv_kd (tyX8 k) ≠ 1 := by decide +kernel
theorem in_X9 : ∀ w ∈ u_ws RX9 TX9 4, w ∈ cv_T := by
  have h : (u_ws RX9 TX9 4).all (fun w => decide (w ∈ lw_tbl) && goodWord w) = true := by decide +kernel
  intro w hw
  have := List.all_eq_true.mp h w hw
  simp only [Bool.and_eq_true, decide_eq_true_eq] at this
  exact List.mem_filter.mpr this
theorem kd_X9 : ∀ k, k < 4 → (fk_all.getD 9 [])[k]? = some (cv_kd (tyX9 k)) ∧ cv_kd (tyX9 k) ≤ 4 ∧ cv_kd (tyX9 k) ≠ 1 := by decide +kernel
theorem in_X10 : ∀ w ∈ u_ws RX10 TX10 3, w ∈ cv_T := by
  have h : (u_ws RX10 TX10 3).all (fun w => decide (w ∈ lw_tbl) && goodWord w) = true := by decide +kernel
  intro w hw
  have := List.all_eq_true.mp h w hw
  simp only [Bool.and_eq_true, decide_eq_true_eq] at this
  exact List.mem_filter.mpr this
theorem kd_X10 : ∀ k, k < 3 → (fk_all.getD 10 [])[k]? = some (cv_kd (tyX10 k)) ∧ cv_kd (tyX10 k) ≤ 4 ∧ cv_kd (tyX10 k) ≠ 1 := by decide +kernel
theorem in_X11 : ∀ w ∈ u_ws RX11 TX11 16, w ∈ cv_T := by
  have h : (u_ws RX11 TX11 16).all (fun w => decide (w ∈ lw_tbl) && goodWord w) = true := by decide +kernel
  intro w hw
  have := List.all_eq_true.mp h w hw
  simp only [Bool.and_eq_true, decide_eq_true_eq] at this
  exact List.mem_filter.mpr this
theorem kd_X11 : ∀ k, k < 16 → (fk_all.getD 11 [])[k]? = some (cv_kd (tyX11 k)) ∧ cv_kd (tyX11 k) ≤ 4 ∧ cv_kd (tyX11 k) ≠ 1 := by decide +kernel
theorem in_X12 : ∀ w ∈ u_ws RX12 TX12 69, w ∈ cv_T := by
  have h : (u_ws RX12 TX12 69).all (fun w => decide (w ∈ lw_tbl) && goodWord w) = true := by decide +kernel
  intro w hw
  have := List.all_eq_true.mp h w hw
  simp only [Bool.and_eq_true, decide_eq_true_eq] at this
  exact List.mem_filter.mpr this
theorem kd_X12 : ∀ k, k < 69 → (fk_all.getD 12 [])[k]? = some (cv_kd (tyX12 k)) ∧ cv_kd (tyX12 k) ≤ 4 ∧ cv_kd (tyX12 k) ≠ 1 := by decide +kernel
theorem cls_all : cv_cls cv_T vwCl fk_all := by
  intro ci C T N h
  match ci, h with
  | 0, h => cases h; exact ⟨in_X0, nmX0, tyX0, fk_all.getD 0 [], tyX0_ok, rfl, rfl, kd_X0⟩
  | 1, h => cases h; exact ⟨in_X1, nmX1, tyX1, fk_all.getD 1 [], tyX1_ok, rfl, rfl, kd_X1⟩
  | 2, h => cases h; exact ⟨in_X2, nmX2, tyX2, fk_all.getD 2 [], tyX2_ok, rfl, rfl, kd_X2⟩
  | 3, h => cases h; exact ⟨in_X3, nmX3, tyX3, fk_all.getD 3 [], tyX3_ok, rfl, rfl, kd_X3⟩
  | 4, h => cases h; exact ⟨in_X4, nmX4, tyX4, fk_all.getD 4 [], tyX4_ok, rfl, rfl, kd_X4⟩
  | 5, h => cases h; exact ⟨in_X5, nmX5, tyX5, fk_all.getD 5 [], tyX5_ok, rfl, rfl, kd_X5⟩
  | 6, h => cases h; exact ⟨in_X6, nmX6, tyX6, fk_all.getD 6 [], tyX6_ok, rfl, rfl, kd_X6⟩
  | 7, h => cases h; exact ⟨in_X7, nmX7, tyX7, fk_all.getD 7 [], tyX7_ok, rfl, rfl, kd_X7⟩
  | 8, h => cases h; exact ⟨in_X8, nmX8, tyX8, fk_all.getD 8 [], tyX8_ok, rfl, rfl, kd_X8⟩
  | 9, h => cases h; exact ⟨in_X9, nmX9, tyX9, fk_all.getD 9 [], tyX9_ok, rfl, rfl, kd_X9⟩
  | 10, h => cases h; exact ⟨in_X10, nmX10, tyX10, fk_all.getD 10 [], tyX10_ok, rfl, rfl, kd_X10⟩
  | 11, h => cases h; exact ⟨in_X11, nmX11, tyX11, fk_all.getD 11 [], tyX11_ok, rfl, rfl, kd_X11⟩
  | 12, h => cases h; exact ⟨in_X12, nmX12, tyX12, fk_all.getD 12 [], tyX12_ok, rfl, rfl, kd_X12⟩
  | j + 13, h => exact absurd h (by show ¬ ([] : List vw_C)[j]? = some (C, T, N); simp)
theorem al_all : cv_All cv_T vwCl fk_all mt_all := by
  refine ⟨cv_T_good, cls_all, ⟨TX1, 17, rfl⟩, ⟨TX7, 17, rfl⟩, by decide, fun j hj => ?_, ok_all⟩
  match j, hj with
  | j + 9000, _ => rfl
