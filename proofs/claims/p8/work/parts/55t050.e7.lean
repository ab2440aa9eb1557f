/-! ===== all checks by cells ===== -/
theorem ef_runE {Ks : List ef_K} {TF : ef_T} {TR : ef_U} {mt : Nat → cv_M} {F : cv_F} (hc : ∀ K, K ∈ Ks → ∃ cs n, ef_chk Ks TF TR (mt K.1) K cs n = true) (h9 : ∀ j, ef_nk j ≠ none → (mt j).2.1 = []) : ∀ N, ef_Aa F mt Ks TF TR N := by
  have hch : ∀ K, ∃ x : List ef_G × Nat, K ∈ Ks → ef_chk Ks TF TR (mt K.1) K x.1 x.2 = true := fun K => by
    by_cases h : K ∈ Ks
    · obtain ⟨cs, n, q⟩ := hc K h
      exact ⟨(cs, n), fun _ => q⟩
    · exact ⟨([], 0), fun q => absurd q h⟩
  exact ef_run (css := fun K => Classical.choose (hch K)) (fun K hK => Classical.choose_spec (hch K) hK) h9
set_option maxRecDepth 100000 in
theorem ec_all : ∀ K, K ∈ ec_Ks → ∃ cs n, ef_chk ec_Ks ec_TF ec_TR (mt_all K.1) K cs n = true := by
  intro K hK
  unfold ec_Ks at hK
  rcases List.mem_cons.mp hK with rfl | hK
  · exact ⟨_, _, eq_X7_setHeight_0⟩
  rcases List.mem_cons.mp hK with rfl | hK
  · exact ⟨_, _, eq_X7_clear_0⟩
  rcases List.mem_cons.mp hK with rfl | hK
  · exact ⟨_, _, eq_X4_clear_0⟩
  rcases List.mem_cons.mp hK with rfl | hK
  · exact ⟨_, _, eq_X6_letterBits_0⟩
  rcases List.mem_cons.mp hK with rfl | hK
  · exact ⟨_, _, eq_X6_readLetters_0⟩
  rcases List.mem_cons.mp hK with rfl | hK
  · exact ⟨_, _, eq_X6_readDigits_0⟩
  rcases List.mem_cons.mp hK with rfl | hK
  · exact ⟨_, _, eq_X6_takes_0⟩
  rcases List.mem_cons.mp hK with rfl | hK
  · exact ⟨_, _, eq_X6_readSign_0⟩
  rcases List.mem_cons.mp hK with rfl | hK
  · exact ⟨_, _, eq_X6_step_0⟩
  rcases List.mem_cons.mp hK with rfl | hK
  · exact ⟨_, _, eq_X6_begin_0⟩
  rcases List.mem_cons.mp hK with rfl | hK
  · exact ⟨_, _, eq_X11_placeOf_0⟩
  rcases List.mem_cons.mp hK with rfl | hK
  · exact ⟨_, _, eq_X5_fail_0⟩
  rcases List.mem_cons.mp hK with rfl | hK
  · exact ⟨_, _, eq_X5_readNewName_0⟩
  rcases List.mem_cons.mp hK with rfl | hK
  · exact ⟨_, _, eq_X5_readNumber_0⟩
  rcases List.mem_cons.mp hK with rfl | hK
  · exact ⟨_, _, eq_X6_isWordFrom_0⟩
  rcases List.mem_cons.mp hK with rfl | hK
  · exact ⟨_, _, eq_X5_readCause_0⟩
  rcases List.mem_cons.mp hK with rfl | hK
  · exact ⟨_, _, eq_X5_readSemicolon_0⟩
  rcases List.mem_cons.mp hK with rfl | hK
  · exact ⟨_, _, eq_X11_placeOf_1⟩
  rcases List.mem_cons.mp hK with rfl | hK
  · exact ⟨_, _, eq_X5_readNewName_1⟩
  rcases List.mem_cons.mp hK with rfl | hK
  · exact ⟨_, _, eq_X5_kindOf_0⟩
  rcases List.mem_cons.mp hK with rfl | hK
  · exact ⟨_, _, eq_X5_mostOf_0⟩
  rcases List.mem_cons.mp hK with rfl | hK
  · exact ⟨_, _, eq_X5_readNumber_1⟩
  rcases List.mem_cons.mp hK with rfl | hK
  · exact ⟨_, _, eq_X5_readWork_0⟩
  rcases List.mem_cons.mp hK with rfl | hK
  · exact ⟨_, _, eq_X11_placeOf_2⟩
  rcases List.mem_cons.mp hK with rfl | hK
  · exact ⟨_, _, eq_X5_readNewName_2⟩
  rcases List.mem_cons.mp hK with rfl | hK
  · exact ⟨_, _, eq_X5_readBrace_0⟩
  rcases List.mem_cons.mp hK with rfl | hK
  · exact ⟨_, _, eq_X11_placeOf_3⟩
  rcases List.mem_cons.mp hK with rfl | hK
  · exact ⟨_, _, eq_X5_readHas_0⟩
  rcases List.mem_cons.mp hK with rfl | hK
  · exact ⟨_, _, eq_X5_readPart_0⟩
  rcases List.mem_cons.mp hK with rfl | hK
  · exact ⟨_, _, eq_X5_readGate_0⟩
  rcases List.mem_cons.mp hK with rfl | hK
  · exact ⟨_, _, eq_X4_isLaw_0⟩
  rcases List.mem_cons.mp hK with rfl | hK
  · exact ⟨_, _, eq_X6_isWord_0⟩
  rcases List.mem_cons.mp hK with rfl | hK
  · exact ⟨_, _, eq_X0_signOf_0⟩
  rcases List.mem_cons.mp hK with rfl | hK
  · exact ⟨_, _, eq_X0_latestHeld_0⟩
  rcases List.mem_cons.mp hK with rfl | hK
  · exact ⟨_, _, eq_X0_rankOf_0⟩
  rcases List.mem_cons.mp hK with rfl | hK
  · exact ⟨_, _, eq_X4_addCode_0⟩
  rcases List.mem_cons.mp hK with rfl | hK
  · exact ⟨_, _, eq_X0_release_0⟩
  rcases List.mem_cons.mp hK with rfl | hK
  · exact ⟨_, _, eq_X0_hold_0⟩
  rcases List.mem_cons.mp hK with rfl | hK
  · exact ⟨_, _, eq_X0_openParen_0⟩
  rcases List.mem_cons.mp hK with rfl | hK
  · exact ⟨_, _, eq_X0_hold_1⟩
  rcases List.mem_cons.mp hK with rfl | hK
  · exact ⟨_, _, eq_X0_holdKnot_0⟩
  rcases List.mem_cons.mp hK with rfl | hK
  · exact ⟨_, _, eq_X0_nameOf_0⟩
  rcases List.mem_cons.mp hK with rfl | hK
  · exact ⟨_, _, eq_X0_valueKnot_0⟩
  rcases List.mem_cons.mp hK with rfl | hK
  · exact ⟨_, _, eq_X4_addCode_1⟩
  rcases List.mem_cons.mp hK with rfl | hK
  · exact ⟨_, _, eq_X0_readValue_0⟩
  rcases List.mem_cons.mp hK with rfl | hK
  · exact ⟨_, _, eq_X0_rankOf_1⟩
  rcases List.mem_cons.mp hK with rfl | hK
  · exact ⟨_, _, eq_X0_holdKnot_1⟩
  rcases List.mem_cons.mp hK with rfl | hK
  · exact ⟨_, _, eq_X0_readJoint_0⟩
  rcases List.mem_cons.mp hK with rfl | hK
  · exact ⟨_, _, eq_X0_readInto_0⟩
  rcases List.mem_cons.mp hK with rfl | hK
  · exact ⟨_, _, eq_X5_fail_1⟩
  rcases List.mem_cons.mp hK with rfl | hK
  · exact ⟨_, _, eq_X5_readLaw_0⟩
  rcases List.mem_cons.mp hK with rfl | hK
  · exact ⟨_, _, eq_X5_readGround_0⟩
  rcases List.mem_cons.mp hK with rfl | hK
  · exact ⟨_, _, eq_X5_readText_0⟩
  rcases List.mem_cons.mp hK with rfl | hK
  · exact ⟨_, _, eq_X2_forget_0⟩
  rcases List.mem_cons.mp hK with rfl | hK
  · exact ⟨_, _, eq_X4_moreBy_0⟩
  rcases List.mem_cons.mp hK with rfl | hK
  · exact ⟨_, _, eq_X1_setCauses_0⟩
  rcases List.mem_cons.mp hK with rfl | hK
  · exact ⟨_, _, eq_X1_begin_0⟩
  rcases List.mem_cons.mp hK with rfl | hK
  · exact ⟨_, _, eq_X10_clear_0⟩
  rcases List.mem_cons.mp hK with rfl | hK
  · exact ⟨_, _, eq_X3_clear_0⟩
  rcases List.mem_cons.mp hK with rfl | hK
  · exact ⟨_, _, eq_X11_takeSpare_0⟩
  rcases List.mem_cons.mp hK with rfl | hK
  · exact ⟨_, _, eq_X11_text_0⟩
  rcases List.mem_cons.mp hK with rfl | hK
  · exact ⟨_, _, eq_X7_setHeight_1⟩
  rcases List.mem_cons.mp hK with rfl | hK
  · exact ⟨_, _, eq_X7_clear_1⟩
  rcases List.mem_cons.mp hK with rfl | hK
  · exact ⟨_, _, eq_X4_clear_1⟩
  rcases List.mem_cons.mp hK with rfl | hK
  · exact ⟨_, _, eq_X11_placeOf_4⟩
  rcases List.mem_cons.mp hK with rfl | hK
  · exact ⟨_, _, eq_X5_fail_2⟩
  rcases List.mem_cons.mp hK with rfl | hK
  · exact ⟨_, _, eq_X5_readNewName_3⟩
  rcases List.mem_cons.mp hK with rfl | hK
  · exact ⟨_, _, eq_X5_readNumber_2⟩
  rcases List.mem_cons.mp hK with rfl | hK
  · exact ⟨_, _, eq_X5_readCause_1⟩
  rcases List.mem_cons.mp hK with rfl | hK
  · exact ⟨_, _, eq_X5_readSemicolon_1⟩
  rcases List.mem_cons.mp hK with rfl | hK
  · exact ⟨_, _, eq_X11_placeOf_5⟩
  rcases List.mem_cons.mp hK with rfl | hK
  · exact ⟨_, _, eq_X5_readNewName_4⟩
  rcases List.mem_cons.mp hK with rfl | hK
  · exact ⟨_, _, eq_X5_kindOf_1⟩
  rcases List.mem_cons.mp hK with rfl | hK
  · exact ⟨_, _, eq_X5_mostOf_1⟩
  rcases List.mem_cons.mp hK with rfl | hK
  · exact ⟨_, _, eq_X5_readNumber_3⟩
  rcases List.mem_cons.mp hK with rfl | hK
  · exact ⟨_, _, eq_X5_readWork_1⟩
  rcases List.mem_cons.mp hK with rfl | hK
  · exact ⟨_, _, eq_X11_placeOf_6⟩
  rcases List.mem_cons.mp hK with rfl | hK
  · exact ⟨_, _, eq_X5_readNewName_5⟩
  rcases List.mem_cons.mp hK with rfl | hK
  · exact ⟨_, _, eq_X5_readBrace_1⟩
  rcases List.mem_cons.mp hK with rfl | hK
  · exact ⟨_, _, eq_X11_placeOf_7⟩
  rcases List.mem_cons.mp hK with rfl | hK
  · exact ⟨_, _, eq_X5_readHas_1⟩
  rcases List.mem_cons.mp hK with rfl | hK
  · exact ⟨_, _, eq_X5_readPart_1⟩
  rcases List.mem_cons.mp hK with rfl | hK
  · exact ⟨_, _, eq_X5_readGate_1⟩
  rcases List.mem_cons.mp hK with rfl | hK
  · exact ⟨_, _, eq_X4_isLaw_1⟩
  rcases List.mem_cons.mp hK with rfl | hK
  · exact ⟨_, _, eq_X0_signOf_1⟩
  rcases List.mem_cons.mp hK with rfl | hK
  · exact ⟨_, _, eq_X0_latestHeld_1⟩
  rcases List.mem_cons.mp hK with rfl | hK
  · exact ⟨_, _, eq_X0_rankOf_2⟩
  rcases List.mem_cons.mp hK with rfl | hK
  · exact ⟨_, _, eq_X4_addCode_2⟩
  rcases List.mem_cons.mp hK with rfl | hK
  · exact ⟨_, _, eq_X0_release_1⟩
  rcases List.mem_cons.mp hK with rfl | hK
  · exact ⟨_, _, eq_X0_hold_2⟩
  rcases List.mem_cons.mp hK with rfl | hK
  · exact ⟨_, _, eq_X0_openParen_1⟩
  rcases List.mem_cons.mp hK with rfl | hK
  · exact ⟨_, _, eq_X0_hold_3⟩
  rcases List.mem_cons.mp hK with rfl | hK
  · exact ⟨_, _, eq_X0_holdKnot_2⟩
  rcases List.mem_cons.mp hK with rfl | hK
  · exact ⟨_, _, eq_X0_nameOf_1⟩
  rcases List.mem_cons.mp hK with rfl | hK
  · exact ⟨_, _, eq_X0_valueKnot_1⟩
  rcases List.mem_cons.mp hK with rfl | hK
  · exact ⟨_, _, eq_X4_addCode_3⟩
  rcases List.mem_cons.mp hK with rfl | hK
  · exact ⟨_, _, eq_X0_readValue_1⟩
  rcases List.mem_cons.mp hK with rfl | hK
  · exact ⟨_, _, eq_X0_rankOf_3⟩
  rcases List.mem_cons.mp hK with rfl | hK
  · exact ⟨_, _, eq_X0_holdKnot_3⟩
  rcases List.mem_cons.mp hK with rfl | hK
  · exact ⟨_, _, eq_X0_readJoint_1⟩
  rcases List.mem_cons.mp hK with rfl | hK
  · exact ⟨_, _, eq_X0_readInto_1⟩
  rcases List.mem_cons.mp hK with rfl | hK
  · exact ⟨_, _, eq_X5_fail_3⟩
  rcases List.mem_cons.mp hK with rfl | hK
  · exact ⟨_, _, eq_X5_readLaw_1⟩
  rcases List.mem_cons.mp hK with rfl | hK
  · exact ⟨_, _, eq_X5_readGround_1⟩
  rcases List.mem_cons.mp hK with rfl | hK
  · exact ⟨_, _, eq_X5_readText_1⟩
  rcases List.mem_cons.mp hK with rfl | hK
  · exact ⟨_, _, eq_X4_moreBy_1⟩
  rcases List.mem_cons.mp hK with rfl | hK
  · exact ⟨_, _, eq_X1_setCauses_1⟩
  rcases List.mem_cons.mp hK with rfl | hK
  · exact ⟨_, _, eq_X1_begin_1⟩
  rcases List.mem_cons.mp hK with rfl | hK
  · exact ⟨_, _, eq_X11_takeSpare_1⟩
  rcases List.mem_cons.mp hK with rfl | hK
  · exact ⟨_, _, eq_X11_text_1⟩
  rcases List.mem_cons.mp hK with rfl | hK
  · exact ⟨_, _, eq_X11_fault_0⟩
  rcases List.mem_cons.mp hK with rfl | hK
  · exact ⟨_, _, eq_X11_placeOf_8⟩
  rcases List.mem_cons.mp hK with rfl | hK
  · exact ⟨_, _, eq_X11_placeOf_9⟩
  rcases List.mem_cons.mp hK with rfl | hK
  · exact ⟨_, _, eq_X11_placeOf_10⟩
  rcases List.mem_cons.mp hK with rfl | hK
  · exact ⟨_, _, eq_X11_named_0⟩
  rcases List.mem_cons.mp hK with rfl | hK
  · exact ⟨_, _, eq_X4_isWork_0⟩
  rcases List.mem_cons.mp hK with rfl | hK
  · exact ⟨_, _, eq_X11_works_0⟩
  rcases List.mem_cons.mp hK with rfl | hK
  · exact ⟨_, _, eq_X11_isWeek_0⟩
  rcases List.mem_cons.mp hK with rfl | hK
  · exact ⟨_, _, eq_X4_firmIn_0⟩
  rcases List.mem_cons.mp hK with rfl | hK
  · exact ⟨_, _, eq_X11_firm_0⟩
  rcases List.mem_cons.mp hK with rfl | hK
  · exact ⟨_, _, eq_X11_isAhead_0⟩
  rcases List.mem_cons.mp hK with rfl | hK
  · exact ⟨_, _, eq_X7_span_0⟩
  rcases List.mem_cons.mp hK with rfl | hK
  · exact ⟨_, _, eq_X1_pull_0⟩
  rcases List.mem_cons.mp hK with rfl | hK
  · exact ⟨_, _, eq_X2_put_0⟩
  rcases List.mem_cons.mp hK with rfl | hK
  · exact ⟨_, _, eq_X1_leanPart_0⟩
  rcases List.mem_cons.mp hK with rfl | hK
  · exact ⟨_, _, eq_X1_hooksPart_0⟩
  rcases List.mem_cons.mp hK with rfl | hK
  · exact ⟨_, _, eq_X1_drop_0⟩
  rcases List.mem_cons.mp hK with rfl | hK
  · exact ⟨_, _, eq_X2_see_0⟩
  rcases List.mem_cons.mp hK with rfl | hK
  · exact ⟨_, _, eq_X4_isLaw_2⟩
  rcases List.mem_cons.mp hK with rfl | hK
  · exact ⟨_, _, eq_X2_valueOf_0⟩
  rcases List.mem_cons.mp hK with rfl | hK
  · exact ⟨_, _, eq_X2_times_0⟩
  rcases List.mem_cons.mp hK with rfl | hK
  · exact ⟨_, _, eq_X2_bounded_0⟩
  rcases List.mem_cons.mp hK with rfl | hK
  · exact ⟨_, _, eq_X2_by_0⟩
  rcases List.mem_cons.mp hK with rfl | hK
  · exact ⟨_, _, eq_X2_join_0⟩
  rcases List.mem_cons.mp hK with rfl | hK
  · exact ⟨_, _, eq_X2_workOut_0⟩
  rcases List.mem_cons.mp hK with rfl | hK
  · exact ⟨_, _, eq_X2_refresh_0⟩
  rcases List.mem_cons.mp hK with rfl | hK
  · exact ⟨_, _, eq_X1_grow_0⟩
  rcases List.mem_cons.mp hK with rfl | hK
  · exact ⟨_, _, eq_X2_pass_0⟩
  rcases List.mem_cons.mp hK with rfl | hK
  · exact ⟨_, _, eq_X11_weeks_0⟩
  rcases List.mem_cons.mp hK with rfl | hK
  · exact ⟨_, _, eq_X11_isGate_0⟩
  rcases List.mem_cons.mp hK with rfl | hK
  · exact ⟨_, _, eq_X11_sags_0⟩
  rcases List.mem_cons.mp hK with rfl | hK
  · exact ⟨_, _, eq_X1_isLatched_0⟩
  rcases List.mem_cons.mp hK with rfl | hK
  · exact ⟨_, _, eq_X11_latched_0⟩
  rcases List.mem_cons.mp hK with rfl | hK
  · exact ⟨_, _, eq_X11_gives_0⟩
  rcases List.mem_cons.mp hK with rfl | hK
  · exact ⟨_, _, eq_X10_dropEarliest_0⟩
  rcases List.mem_cons.mp hK with rfl | hK
  · exact ⟨_, _, eq_X1_copy_0⟩
  rcases List.mem_cons.mp hK with rfl | hK
  · exact ⟨_, _, eq_X10_push_0⟩
  rcases List.mem_cons.mp hK with rfl | hK
  · exact ⟨_, _, eq_X1_take_0⟩
  rcases List.mem_cons.mp hK with rfl | hK
  · exact ⟨_, _, eq_X11_work_0⟩
  rcases List.mem_cons.mp hK with rfl | hK
  · exact ⟨_, _, eq_X10_latestGate_0⟩
  rcases List.mem_cons.mp hK with rfl | hK
  · exact ⟨_, _, eq_X1_copy_1⟩
  rcases List.mem_cons.mp hK with rfl | hK
  · exact ⟨_, _, eq_X10_popInto_0⟩
  rcases List.mem_cons.mp hK with rfl | hK
  · exact ⟨_, _, eq_X11_undo_0⟩
  rcases List.mem_cons.mp hK with rfl | hK
  · exact ⟨_, _, eq_X11_isBound_0⟩
  rcases List.mem_cons.mp hK with rfl | hK
  · exact ⟨_, _, eq_X1_copy_2⟩
  rcases List.mem_cons.mp hK with rfl | hK
  · exact ⟨_, _, eq_X1_pull_1⟩
  rcases List.mem_cons.mp hK with rfl | hK
  · exact ⟨_, _, eq_X1_leanPart_1⟩
  rcases List.mem_cons.mp hK with rfl | hK
  · exact ⟨_, _, eq_X1_hooksPart_1⟩
  rcases List.mem_cons.mp hK with rfl | hK
  · exact ⟨_, _, eq_X1_drop_1⟩
  rcases List.mem_cons.mp hK with rfl | hK
  · exact ⟨_, _, eq_X2_see_1⟩
  rcases List.mem_cons.mp hK with rfl | hK
  · exact ⟨_, _, eq_X1_grow_1⟩
  rcases List.mem_cons.mp hK with rfl | hK
  · exact ⟨_, _, eq_X2_pass_1⟩
  rcases List.mem_cons.mp hK with rfl | hK
  · exact ⟨_, _, eq_X11_lasts_0⟩
  rcases List.mem_cons.mp hK with rfl | hK
  · exact ⟨_, _, eq_X4_costOf_0⟩
  rcases List.mem_cons.mp hK with rfl | hK
  · exact ⟨_, _, eq_X1_take_1⟩
  rcases List.mem_cons.mp hK with rfl | hK
  · exact ⟨_, _, eq_X2_pass_2⟩
  rcases List.mem_cons.mp hK with rfl | hK
  · exact ⟨_, _, eq_X11_holds_0⟩
  rcases List.mem_cons.mp hK with rfl | hK
  · exact ⟨_, _, eq_X11_least_0⟩
  rcases List.mem_cons.mp hK with rfl | hK
  · exact ⟨_, _, eq_X11_dropWithBrace_0⟩
  rcases List.mem_cons.mp hK with rfl | hK
  · exact ⟨_, _, eq_X11_way_0⟩
  rcases List.mem_cons.mp hK with rfl | hK
  · exact ⟨_, _, eq_X4_growthNames_0⟩
  rcases List.mem_cons.mp hK with rfl | hK
  · exact ⟨_, _, eq_X11_enough_0⟩
  rcases List.mem_cons.mp hK with rfl | hK
  · exact ⟨_, _, eq_X11_bears_0⟩
  rcases List.mem_cons.mp hK with rfl | hK
  · exact ⟨_, _, eq_X4_isLaw_3⟩
  rcases List.mem_cons.mp hK with rfl | hK
  · exact ⟨_, _, eq_X2_see_2⟩
  rcases List.mem_cons.mp hK with rfl | hK
  · exact ⟨_, _, eq_X2_workOut_1⟩
  rcases List.mem_cons.mp hK with rfl | hK
  · exact ⟨_, _, eq_X11_knock_0⟩
  rcases List.mem_cons.mp hK with rfl | hK
  · exact ⟨_, _, eq_X3_add_0⟩
  rcases List.mem_cons.mp hK with rfl | hK
  · exact ⟨_, _, eq_X11_measure_0⟩
  rcases List.mem_cons.mp hK with rfl | hK
  · exact ⟨_, _, eq_X3_addStrike_0⟩
  rcases List.mem_cons.mp hK with rfl | hK
  · exact ⟨_, _, eq_X11_strike_0⟩
  rcases List.mem_cons.mp hK with rfl | hK
  · exact ⟨_, _, eq_X11_known_0⟩
  rcases List.mem_cons.mp hK with rfl | hK
  · exact ⟨_, _, eq_X3_knownCount_0⟩
  rcases List.mem_cons.mp hK with rfl | hK
  · exact ⟨_, _, eq_X3_findStruck_0⟩
  rcases List.mem_cons.mp hK with rfl | hK
  · exact ⟨_, _, eq_X3_pick_0⟩
  rcases List.mem_cons.mp hK with rfl | hK
  · exact ⟨_, _, eq_X4_moreBy_2⟩
  rcases List.mem_cons.mp hK with rfl | hK
  · exact ⟨_, _, eq_X1_setCauses_2⟩
  rcases List.mem_cons.mp hK with rfl | hK
  · exact ⟨_, _, eq_X1_begin_2⟩
  rcases List.mem_cons.mp hK with rfl | hK
  · exact ⟨_, _, eq_X1_leanPart_2⟩
  rcases List.mem_cons.mp hK with rfl | hK
  · exact ⟨_, _, eq_X1_hooksPart_2⟩
  rcases List.mem_cons.mp hK with rfl | hK
  · exact ⟨_, _, eq_X1_drop_2⟩
  rcases List.mem_cons.mp hK with rfl | hK
  · exact ⟨_, _, eq_X1_measured_0⟩
  rcases List.mem_cons.mp hK with rfl | hK
  · exact ⟨_, _, eq_X8_record_0⟩
  rcases List.mem_cons.mp hK with rfl | hK
  · exact ⟨_, _, eq_X1_pull_2⟩
  rcases List.mem_cons.mp hK with rfl | hK
  · exact ⟨_, _, eq_X2_see_3⟩
  rcases List.mem_cons.mp hK with rfl | hK
  · exact ⟨_, _, eq_X1_grow_2⟩
  rcases List.mem_cons.mp hK with rfl | hK
  · exact ⟨_, _, eq_X2_pass_3⟩
  rcases List.mem_cons.mp hK with rfl | hK
  · exact ⟨_, _, eq_X1_measured_1⟩
  rcases List.mem_cons.mp hK with rfl | hK
  · exact ⟨_, _, eq_X3_agree_0⟩
  rcases List.mem_cons.mp hK with rfl | hK
  · exact ⟨_, _, eq_X8_judge_0⟩
  rcases List.mem_cons.mp hK with rfl | hK
  · exact ⟨_, _, eq_X11_fits_0⟩
  rcases List.mem_cons.mp hK with rfl | hK
  · exact ⟨_, _, eq_X4_isCause_0⟩
  rcases List.mem_cons.mp hK with rfl | hK
  · exact ⟨_, _, eq_X4_weightOf_0⟩
  rcases List.mem_cons.mp hK with rfl | hK
  · exact ⟨_, _, eq_X8_weightOfFitting_0⟩
  rcases List.mem_cons.mp hK with rfl | hK
  · exact ⟨_, _, eq_X11_odds_0⟩
  rcases List.mem_cons.mp hK with rfl | hK
  · exact ⟨_, _, eq_J6_bitCount_0f7a4_0⟩
  rcases List.mem_cons.mp hK with rfl | hK
  · exact ⟨_, _, eq_X8_recorded_0⟩
  rcases List.mem_cons.mp hK with rfl | hK
  · exact ⟨_, _, eq_X8_heaviestGroup_0⟩
  rcases List.mem_cons.mp hK with rfl | hK
  · exact ⟨_, _, eq_X11_test_0⟩
  rcases List.mem_cons.mp hK with rfl | hK
  · exact ⟨_, _, eq_X11_isAngle_0⟩
  rcases List.mem_cons.mp hK with rfl | hK
  · exact ⟨_, _, eq_X1_lowHung_0⟩
  rcases List.mem_cons.mp hK with rfl | hK
  · exact ⟨_, _, eq_X11_low_0⟩
  rcases List.mem_cons.mp hK with rfl | hK
  · exact ⟨_, _, eq_X11_rest_0⟩
  rcases List.mem_cons.mp hK with rfl | hK
  · exact ⟨_, _, eq_X1_lowHung_1⟩
  rcases List.mem_cons.mp hK with rfl | hK
  · exact ⟨_, _, eq_X11_shuts_0⟩
  rcases List.mem_cons.mp hK with rfl | hK
  · exact ⟨_, _, eq_X1_aboveHung_0⟩
  rcases List.mem_cons.mp hK with rfl | hK
  · exact ⟨_, _, eq_X11_above_0⟩
  rcases List.mem_cons.mp hK with rfl | hK
  · exact ⟨_, _, eq_X11_opens_0⟩
  rcases List.mem_cons.mp hK with rfl | hK
  · exact ⟨_, _, eq_X1_lowHung_2⟩
  rcases List.mem_cons.mp hK with rfl | hK
  · exact ⟨_, _, eq_X1_lowHung_3⟩
  rcases List.mem_cons.mp hK with rfl | hK
  · exact ⟨_, _, eq_X1_aboveHung_1⟩
  rcases List.mem_cons.mp hK with rfl | hK
  · exact ⟨_, _, eq_X1_standsWith_0⟩
  rcases List.mem_cons.mp hK with rfl | hK
  · exact ⟨_, _, eq_X1_standsWith_1⟩
  rcases List.mem_cons.mp hK with rfl | hK
  · exact ⟨_, _, eq_X11_stand_0⟩
  rcases List.mem_cons.mp hK with rfl | hK
  · exact ⟨_, _, eq_X1_isLatched_1⟩
  rcases List.mem_cons.mp hK with rfl | hK
  · exact ⟨_, _, eq_X11_unlatchedWeeks_0⟩
  rcases List.mem_cons.mp hK with rfl | hK
  · exact ⟨_, _, eq_X9_tell_0⟩
  rcases List.mem_cons.mp hK with rfl | hK
  · exact ⟨_, _, eq_X9_sumOf_0⟩
  rcases List.mem_cons.mp hK with rfl | hK
  · exact ⟨_, _, eq_X9_choose_0⟩
  rcases List.mem_cons.mp hK with rfl | hK
  · exact ⟨_, _, eq_X9_gateAt_0⟩
  rcases List.mem_cons.mp hK with rfl | hK
  · exact ⟨_, _, eq_X11_first_0⟩
  rcases List.mem_cons.mp hK with rfl | hK
  · exact ⟨_, _, eq_X11_wind_0⟩
  rcases List.mem_cons.mp hK with rfl | hK
  · exact ⟨_, _, eq_X1_copy_3⟩
  rcases List.mem_cons.mp hK with rfl | hK
  · exact ⟨_, _, eq_X11_keep_0⟩
  rcases List.mem_cons.mp hK with rfl | hK
  · exact ⟨_, _, eq_X1_copy_4⟩
  rcases List.mem_cons.mp hK with rfl | hK
  · exact ⟨_, _, eq_X11_back_0⟩
  rcases List.mem_cons.mp hK with rfl | hK
  · exact ⟨_, _, eq_X4_costOf_1⟩
  rcases List.mem_cons.mp hK with rfl | hK
  · exact ⟨_, _, eq_X11_costOfAllDone_0⟩
  rcases List.mem_cons.mp hK with rfl | hK
  · exact ⟨_, _, eq_X11_count_0⟩
  cases hK
theorem ec_run : ∀ N, ef_Aa fk_all mt_all ec_Ks ec_TF ec_TR N := ef_runE ec_all ef_h9
