set_option maxRecDepth 10000 in
theorem mt_hi (j : Nat) (h : 282 ≤ j) : mt_all j = mt_none := by
  delta mt_all mt_all.match_1
  iterate 282 (refine (dif_neg (by omega)).trans ?_)
  rfl
theorem mt_dite {c : Prop} [Decidable c] {α : Type} {P : α → Prop} {a : c → α} {b : ¬ c → α} (h1 : ∀ h, P (a h)) (h2 : ∀ h, P (b h)) : P (dite c a b) := by
  by_cases h : c
  · rw [dif_pos h]; exact h1 h
  · rw [dif_neg h]; exact h2 h
def ok_P (M : cv_M) : Prop := ∀ q ∈ M.2.1, cv_ok cv_T vwCl mt_all M q
set_option maxRecDepth 10000 in
theorem ok_all : ∀ mi, ∀ q ∈ (mt_all mi).2.1, cv_ok cv_T vwCl mt_all (mt_all mi) q := by
  intro mi
  show ok_P (mt_all mi)
  delta mt_all mt_all.match_1
  refine mt_dite (fun h => by subst h; exact fun q hq => ok_X0_init q hq) (fun _ => ?_)
  refine mt_dite (fun h => by subst h; exact fun q hq => ok_X0_readInto q hq) (fun _ => ?_)
  refine mt_dite (fun h => by subst h; exact fun q hq => ok_X0_readValue q hq) (fun _ => ?_)
  refine mt_dite (fun h => by subst h; exact fun q hq => ok_X0_openParen q hq) (fun _ => ?_)
  refine mt_dite (fun h => by subst h; exact fun q hq => ok_X0_valueKnot q hq) (fun _ => ?_)
  refine mt_dite (fun h => by subst h; exact fun q hq => ok_X0_nameOf q hq) (fun _ => ?_)
  refine mt_dite (fun h => by subst h; exact fun q hq => ok_X0_readJoint q hq) (fun _ => ?_)
  refine mt_dite (fun h => by subst h; exact fun q hq => ok_X0_signOf q hq) (fun _ => ?_)
  refine mt_dite (fun h => by subst h; exact fun q hq => ok_X0_rankOf q hq) (fun _ => ?_)
  refine mt_dite (fun h => by subst h; exact fun q hq => ok_X0_holdKnot q hq) (fun _ => ?_)
  refine mt_dite (fun h => by subst h; exact fun q hq => ok_X0_hold q hq) (fun _ => ?_)
  refine mt_dite (fun h => by subst h; exact fun q hq => ok_X0_latestHeld q hq) (fun _ => ?_)
  refine mt_dite (fun h => by subst h; exact fun q hq => ok_X0_release q hq) (fun _ => ?_)
  refine mt_dite (fun h => by subst h; exact fun q hq => ok_X1_init q hq) (fun _ => ?_)
  refine mt_dite (fun h => by subst h; exact fun q hq => ok_X1_begin q hq) (fun _ => ?_)
  refine mt_dite (fun h => by subst h; exact fun q hq => ok_X1_setCauses q hq) (fun _ => ?_)
  refine mt_dite (fun h => by subst h; exact fun q hq => ok_X1_copy q hq) (fun _ => ?_)
  refine mt_dite (fun h => by subst h; exact fun q hq => ok_X1_pull q hq) (fun _ => ?_)
  refine mt_dite (fun h => by subst h; exact fun q hq => ok_X1_leanPart q hq) (fun _ => ?_)
  refine mt_dite (fun h => by subst h; exact fun q hq => ok_X1_hooksPart q hq) (fun _ => ?_)
  refine mt_dite (fun h => by subst h; exact fun q hq => ok_X1_drop q hq) (fun _ => ?_)
  refine mt_dite (fun h => by subst h; exact fun q hq => ok_X1_measured q hq) (fun _ => ?_)
  refine mt_dite (fun h => by subst h; exact fun q hq => ok_X1_isLatched q hq) (fun _ => ?_)
  refine mt_dite (fun h => by subst h; exact fun q hq => ok_X1_take q hq) (fun _ => ?_)
  refine mt_dite (fun h => by subst h; exact fun q hq => ok_X1_grow q hq) (fun _ => ?_)
  refine mt_dite (fun h => by subst h; exact fun q hq => ok_X1_lowHung q hq) (fun _ => ?_)
  refine mt_dite (fun h => by subst h; exact fun q hq => ok_X1_aboveHung q hq) (fun _ => ?_)
  refine mt_dite (fun h => by subst h; exact fun q hq => ok_X1_standsWith q hq) (fun _ => ?_)
  refine mt_dite (fun h => by subst h; exact fun q hq => ok_X2_init q hq) (fun _ => ?_)
  refine mt_dite (fun h => by subst h; exact fun q hq => ok_X2_forget q hq) (fun _ => ?_)
  refine mt_dite (fun h => by subst h; exact fun q hq => ok_X2_put q hq) (fun _ => ?_)
  refine mt_dite (fun h => by subst h; exact fun q hq => ok_X2_see q hq) (fun _ => ?_)
  refine mt_dite (fun h => by subst h; exact fun q hq => ok_X2_pass q hq) (fun _ => ?_)
  refine mt_dite (fun h => by subst h; exact fun q hq => ok_X2_refresh q hq) (fun _ => ?_)
  refine mt_dite (fun h => by subst h; exact fun q hq => ok_X2_workOut q hq) (fun _ => ?_)
  refine mt_dite (fun h => by subst h; exact fun q hq => ok_X2_valueOf q hq) (fun _ => ?_)
  refine mt_dite (fun h => by subst h; exact fun q hq => ok_X2_join q hq) (fun _ => ?_)
  refine mt_dite (fun h => by subst h; exact fun q hq => ok_X2_bounded q hq) (fun _ => ?_)
  refine mt_dite (fun h => by subst h; exact fun q hq => ok_X2_times q hq) (fun _ => ?_)
  refine mt_dite (fun h => by subst h; exact fun q hq => ok_X2_by q hq) (fun _ => ?_)
  refine mt_dite (fun h => by subst h; exact fun q hq => ok_X3_init q hq) (fun _ => ?_)
  refine mt_dite (fun h => by subst h; exact fun q hq => ok_X3_clear q hq) (fun _ => ?_)
  refine mt_dite (fun h => by subst h; exact fun q hq => ok_X3_knownCount q hq) (fun _ => ?_)
  refine mt_dite (fun h => by subst h; exact fun q hq => ok_X3_add q hq) (fun _ => ?_)
  refine mt_dite (fun h => by subst h; exact fun q hq => ok_X3_addStrike q hq) (fun _ => ?_)
  refine mt_dite (fun h => by subst h; exact fun q hq => ok_X3_pick q hq) (fun _ => ?_)
  refine mt_dite (fun h => by subst h; exact fun q hq => ok_X3_findStruck q hq) (fun _ => ?_)
  refine mt_dite (fun h => by subst h; exact fun q hq => ok_X3_agree q hq) (fun _ => ?_)
  refine mt_dite (fun h => by subst h; exact fun q hq => ok_X4_init q hq) (fun _ => ?_)
  refine mt_dite (fun h => by subst h; exact fun q hq => ok_X4_clear q hq) (fun _ => ?_)
  refine mt_dite (fun h => by subst h; exact fun q hq => ok_X4_isWork q hq) (fun _ => ?_)
  refine mt_dite (fun h => by subst h; exact fun q hq => ok_X4_isCause q hq) (fun _ => ?_)
  refine mt_dite (fun h => by subst h; exact fun q hq => ok_X4_isLaw q hq) (fun _ => ?_)
  refine mt_dite (fun h => by subst h; exact fun q hq => ok_X4_firmIn q hq) (fun _ => ?_)
  refine mt_dite (fun h => by subst h; exact fun q hq => ok_X4_growthNames q hq) (fun _ => ?_)
  refine mt_dite (fun h => by subst h; exact fun q hq => ok_X4_costOf q hq) (fun _ => ?_)
  refine mt_dite (fun h => by subst h; exact fun q hq => ok_X4_moreBy q hq) (fun _ => ?_)
  refine mt_dite (fun h => by subst h; exact fun q hq => ok_X4_weightOf q hq) (fun _ => ?_)
  refine mt_dite (fun h => by subst h; exact fun q hq => ok_X4_addCode q hq) (fun _ => ?_)
  refine mt_dite (fun h => by subst h; exact fun q hq => ok_X5_init q hq) (fun _ => ?_)
  refine mt_dite (fun h => by subst h; exact fun q hq => ok_X5_readText q hq) (fun _ => ?_)
  refine mt_dite (fun h => by subst h; exact fun q hq => ok_X5_fail q hq) (fun _ => ?_)
  refine mt_dite (fun h => by subst h; exact fun q hq => ok_X5_readSemicolon q hq) (fun _ => ?_)
  refine mt_dite (fun h => by subst h; exact fun q hq => ok_X5_readNumber q hq) (fun _ => ?_)
  refine mt_dite (fun h => by subst h; exact fun q hq => ok_X5_readNewName q hq) (fun _ => ?_)
  refine mt_dite (fun h => by subst h; exact fun q hq => ok_X5_readGround q hq) (fun _ => ?_)
  refine mt_dite (fun h => by subst h; exact fun q hq => ok_X5_readLaw q hq) (fun _ => ?_)
  refine mt_dite (fun h => by subst h; exact fun q hq => ok_X5_readGate q hq) (fun _ => ?_)
  refine mt_dite (fun h => by subst h; exact fun q hq => ok_X5_readPart q hq) (fun _ => ?_)
  refine mt_dite (fun h => by subst h; exact fun q hq => ok_X5_readBrace q hq) (fun _ => ?_)
  refine mt_dite (fun h => by subst h; exact fun q hq => ok_X5_readHas q hq) (fun _ => ?_)
  refine mt_dite (fun h => by subst h; exact fun q hq => ok_X5_readWork q hq) (fun _ => ?_)
  refine mt_dite (fun h => by subst h; exact fun q hq => ok_X5_kindOf q hq) (fun _ => ?_)
  refine mt_dite (fun h => by subst h; exact fun q hq => ok_X5_mostOf q hq) (fun _ => ?_)
  refine mt_dite (fun h => by subst h; exact fun q hq => ok_X5_readCause q hq) (fun _ => ?_)
  refine mt_dite (fun h => by subst h; exact fun q hq => ok_X6_init q hq) (fun _ => ?_)
  refine mt_dite (fun h => by subst h; exact fun q hq => ok_X6_letterBits q hq) (fun _ => ?_)
  refine mt_dite (fun h => by subst h; exact fun q hq => ok_X6_begin q hq) (fun _ => ?_)
  refine mt_dite (fun h => by subst h; exact fun q hq => ok_X6_step q hq) (fun _ => ?_)
  refine mt_dite (fun h => by subst h; exact fun q hq => ok_X6_readLetters q hq) (fun _ => ?_)
  refine mt_dite (fun h => by subst h; exact fun q hq => ok_X6_readDigits q hq) (fun _ => ?_)
  refine mt_dite (fun h => by subst h; exact fun q hq => ok_X6_readSign q hq) (fun _ => ?_)
  refine mt_dite (fun h => by subst h; exact fun q hq => ok_X6_takes q hq) (fun _ => ?_)
  refine mt_dite (fun h => by subst h; exact fun q hq => ok_X6_isWord q hq) (fun _ => ?_)
  refine mt_dite (fun h => by subst h; exact fun q hq => ok_X6_isWordFrom q hq) (fun _ => ?_)
  refine mt_dite (fun h => by subst h; exact fun q hq => ok_X7_init q hq) (fun _ => ?_)
  refine mt_dite (fun h => by subst h; exact fun q hq => ok_X7_clear q hq) (fun _ => ?_)
  refine mt_dite (fun h => by subst h; exact fun q hq => ok_X7_setHeight q hq) (fun _ => ?_)
  refine mt_dite (fun h => by subst h; exact fun q hq => ok_X7_span q hq) (fun _ => ?_)
  refine mt_dite (fun h => by subst h; exact fun q hq => ok_X8_init q hq) (fun _ => ?_)
  refine mt_dite (fun h => by subst h; exact fun q hq => ok_X8_judge q hq) (fun _ => ?_)
  refine mt_dite (fun h => by subst h; exact fun q hq => ok_X8_record q hq) (fun _ => ?_)
  refine mt_dite (fun h => by subst h; exact fun q hq => ok_X8_recorded q hq) (fun _ => ?_)
  refine mt_dite (fun h => by subst h; exact fun q hq => ok_X8_weightOfFitting q hq) (fun _ => ?_)
  refine mt_dite (fun h => by subst h; exact fun q hq => ok_X8_heaviestGroup q hq) (fun _ => ?_)
  refine mt_dite (fun h => by subst h; exact fun q hq => ok_X9_init q hq) (fun _ => ?_)
  refine mt_dite (fun h => by subst h; exact fun q hq => ok_X9_tell q hq) (fun _ => ?_)
  refine mt_dite (fun h => by subst h; exact fun q hq => ok_X9_choose q hq) (fun _ => ?_)
  refine mt_dite (fun h => by subst h; exact fun q hq => ok_X9_sumOf q hq) (fun _ => ?_)
  refine mt_dite (fun h => by subst h; exact fun q hq => ok_X9_gateAt q hq) (fun _ => ?_)
  refine mt_dite (fun h => by subst h; exact fun q hq => ok_X10_init q hq) (fun _ => ?_)
  refine mt_dite (fun h => by subst h; exact fun q hq => ok_X10_clear q hq) (fun _ => ?_)
  refine mt_dite (fun h => by subst h; exact fun q hq => ok_X10_push q hq) (fun _ => ?_)
  refine mt_dite (fun h => by subst h; exact fun q hq => ok_X10_dropEarliest q hq) (fun _ => ?_)
  refine mt_dite (fun h => by subst h; exact fun q hq => ok_X10_latestGate q hq) (fun _ => ?_)
  refine mt_dite (fun h => by subst h; exact fun q hq => ok_X10_popInto q hq) (fun _ => ?_)
  refine mt_dite (fun h => by subst h; exact fun q hq => ok_X11_init q hq) (fun _ => ?_)
  refine mt_dite (fun h => by subst h; exact fun q hq => ok_X11_feed q hq) (fun _ => ?_)
  refine mt_dite (fun h => by subst h; exact fun q hq => ok_X11_putOnTape q hq) (fun _ => ?_)
  refine mt_dite (fun h => by subst h; exact fun q hq => ok_X11_text q hq) (fun _ => ?_)
  refine mt_dite (fun h => by subst h; exact fun q hq => ok_X11_takeSpare q hq) (fun _ => ?_)
  refine mt_dite (fun h => by subst h; exact fun q hq => ok_X11_fault q hq) (fun _ => ?_)
  refine mt_dite (fun h => by subst h; exact fun q hq => ok_X11_named q hq) (fun _ => ?_)
  refine mt_dite (fun h => by subst h; exact fun q hq => ok_X11_placeOf q hq) (fun _ => ?_)
  refine mt_dite (fun h => by subst h; exact fun q hq => ok_X11_isGate q hq) (fun _ => ?_)
  refine mt_dite (fun h => by subst h; exact fun q hq => ok_X11_isBound q hq) (fun _ => ?_)
  refine mt_dite (fun h => by subst h; exact fun q hq => ok_X11_isAhead q hq) (fun _ => ?_)
  refine mt_dite (fun h => by subst h; exact fun q hq => ok_X11_isAngle q hq) (fun _ => ?_)
  refine mt_dite (fun h => by subst h; exact fun q hq => ok_X11_isWeek q hq) (fun _ => ?_)
  refine mt_dite (fun h => by subst h; exact fun q hq => ok_X11_works q hq) (fun _ => ?_)
  refine mt_dite (fun h => by subst h; exact fun q hq => ok_X11_firm q hq) (fun _ => ?_)
  refine mt_dite (fun h => by subst h; exact fun q hq => ok_X11_weeks q hq) (fun _ => ?_)
  refine mt_dite (fun h => by subst h; exact fun q hq => ok_X11_sags q hq) (fun _ => ?_)
  refine mt_dite (fun h => by subst h; exact fun q hq => ok_X11_latched q hq) (fun _ => ?_)
  refine mt_dite (fun h => by subst h; exact fun q hq => ok_X11_gives q hq) (fun _ => ?_)
  refine mt_dite (fun h => by subst h; exact fun q hq => ok_X11_work q hq) (fun _ => ?_)
  refine mt_dite (fun h => by subst h; exact fun q hq => ok_X11_undo q hq) (fun _ => ?_)
  refine mt_dite (fun h => by subst h; exact fun q hq => ok_X11_lasts q hq) (fun _ => ?_)
  refine mt_dite (fun h => by subst h; exact fun q hq => ok_X11_least q hq) (fun _ => ?_)
  refine mt_dite (fun h => by subst h; exact fun q hq => ok_X11_holds q hq) (fun _ => ?_)
  refine mt_dite (fun h => by subst h; exact fun q hq => ok_X11_way q hq) (fun _ => ?_)
  refine mt_dite (fun h => by subst h; exact fun q hq => ok_X11_dropWithBrace q hq) (fun _ => ?_)
  refine mt_dite (fun h => by subst h; exact fun q hq => ok_X11_enough q hq) (fun _ => ?_)
  refine mt_dite (fun h => by subst h; exact fun q hq => ok_X11_bears q hq) (fun _ => ?_)
  refine mt_dite (fun h => by subst h; exact fun q hq => ok_X11_knock q hq) (fun _ => ?_)
  refine mt_dite (fun h => by subst h; exact fun q hq => ok_X11_measure q hq) (fun _ => ?_)
  refine mt_dite (fun h => by subst h; exact fun q hq => ok_X11_strike q hq) (fun _ => ?_)
  refine mt_dite (fun h => by subst h; exact fun q hq => ok_X11_known q hq) (fun _ => ?_)
  refine mt_dite (fun h => by subst h; exact fun q hq => ok_X11_fits q hq) (fun _ => ?_)
  refine mt_dite (fun h => by subst h; exact fun q hq => ok_X11_odds q hq) (fun _ => ?_)
  refine mt_dite (fun h => by subst h; exact fun q hq => ok_X11_test q hq) (fun _ => ?_)
  refine mt_dite (fun h => by subst h; exact fun q hq => ok_X11_low q hq) (fun _ => ?_)
  refine mt_dite (fun h => by subst h; exact fun q hq => ok_X11_rest q hq) (fun _ => ?_)
  refine mt_dite (fun h => by subst h; exact fun q hq => ok_X11_shuts q hq) (fun _ => ?_)
  refine mt_dite (fun h => by subst h; exact fun q hq => ok_X11_above q hq) (fun _ => ?_)
  refine mt_dite (fun h => by subst h; exact fun q hq => ok_X11_opens q hq) (fun _ => ?_)
  refine mt_dite (fun h => by subst h; exact fun q hq => ok_X11_stand q hq) (fun _ => ?_)
  refine mt_dite (fun h => by subst h; exact fun q hq => ok_X11_first q hq) (fun _ => ?_)
  refine mt_dite (fun h => by subst h; exact fun q hq => ok_X11_unlatchedWeeks q hq) (fun _ => ?_)
  refine mt_dite (fun h => by subst h; exact fun q hq => ok_X11_wind q hq) (fun _ => ?_)
  refine mt_dite (fun h => by subst h; exact fun q hq => ok_X11_keep q hq) (fun _ => ?_)
  refine mt_dite (fun h => by subst h; exact fun q hq => ok_X11_back q hq) (fun _ => ?_)
  refine mt_dite (fun h => by subst h; exact fun q hq => ok_X11_count q hq) (fun _ => ?_)
  refine mt_dite (fun h => by subst h; exact fun q hq => ok_X11_costOfAllDone q hq) (fun _ => ?_)
  refine mt_dite (fun h => by subst h; exact fun q hq => ok_X12_init q hq) (fun _ => ?_)
  refine mt_dite (fun h => by subst h; exact fun q hq => ok_X12_feed q hq) (fun _ => ?_)
  refine mt_dite (fun h => by subst h; exact fun q hq => ok_X12_isIn q hq) (fun _ => ?_)
  refine mt_dite (fun h => by subst h; exact fun q hq => ok_X12_isOf q hq) (fun _ => ?_)
  refine mt_dite (fun h => by subst h; exact fun q hq => ok_X12_sizeOf q hq) (fun _ => ?_)
  refine mt_dite (fun h => by subst h; exact fun q hq => ok_X12_wrong q hq) (fun _ => ?_)
  refine mt_dite (fun h => by subst h; exact fun q hq => ok_X12_wordAt q hq) (fun _ => ?_)
  refine mt_dite (fun h => by subst h; exact fun q hq => ok_X12_isSmall q hq) (fun _ => ?_)
  refine mt_dite (fun h => by subst h; exact fun q hq => ok_X12_isDigit q hq) (fun _ => ?_)
  refine mt_dite (fun h => by subst h; exact fun q hq => ok_X12_token q hq) (fun _ => ?_)
  refine mt_dite (fun h => by subst h; exact fun q hq => ok_X12_signToken q hq) (fun _ => ?_)
  refine mt_dite (fun h => by subst h; exact fun q hq => ok_X12_packed q hq) (fun _ => ?_)
  refine mt_dite (fun h => by subst h; exact fun q hq => ok_X12_isKey q hq) (fun _ => ?_)
  refine mt_dite (fun h => by subst h; exact fun q hq => ok_X12_isSign q hq) (fun _ => ?_)
  refine mt_dite (fun h => by subst h; exact fun q hq => ok_X12_number q hq) (fun _ => ?_)
  refine mt_dite (fun h => by subst h; exact fun q hq => ok_X12_signed q hq) (fun _ => ?_)
  refine mt_dite (fun h => by subst h; exact fun q hq => ok_X12_numbers q hq) (fun _ => ?_)
  refine mt_dite (fun h => by subst h; exact fun q hq => ok_X12_plain q hq) (fun _ => ?_)
  refine mt_dite (fun h => by subst h; exact fun q hq => ok_X12_copies q hq) (fun _ => ?_)
  refine mt_dite (fun h => by subst h; exact fun q hq => ok_X12_keepText q hq) (fun _ => ?_)
  refine mt_dite (fun h => by subst h; exact fun q hq => ok_X12_find q hq) (fun _ => ?_)
  refine mt_dite (fun h => by subst h; exact fun q hq => ok_X12_newName q hq) (fun _ => ?_)
  refine mt_dite (fun h => by subst h; exact fun q hq => ok_X12_groundLine q hq) (fun _ => ?_)
  refine mt_dite (fun h => by subst h; exact fun q hq => ok_X12_lawLine q hq) (fun _ => ?_)
  refine mt_dite (fun h => by subst h; exact fun q hq => ok_X12_hasWord q hq) (fun _ => ?_)
  refine mt_dite (fun h => by subst h; exact fun q hq => ok_X12_gateLine q hq) (fun _ => ?_)
  refine mt_dite (fun h => by subst h; exact fun q hq => ok_X12_hasRead q hq) (fun _ => ?_)
  refine mt_dite (fun h => by subst h; exact fun q hq => ok_X12_hooksRead q hq) (fun _ => ?_)
  refine mt_dite (fun h => by subst h; exact fun q hq => ok_X12_causeRead q hq) (fun _ => ?_)
  refine mt_dite (fun h => by subst h; exact fun q hq => ok_X12_workWord q hq) (fun _ => ?_)
  refine mt_dite (fun h => by subst h; exact fun q hq => ok_X12_mostOf q hq) (fun _ => ?_)
  refine mt_dite (fun h => by subst h; exact fun q hq => ok_X12_workLine q hq) (fun _ => ?_)
  refine mt_dite (fun h => by subst h; exact fun q hq => ok_X12_causeLine q hq) (fun _ => ?_)
  refine mt_dite (fun h => by subst h; exact fun q hq => ok_X12_lineRead q hq) (fun _ => ?_)
  refine mt_dite (fun h => by subst h; exact fun q hq => ok_X12_text q hq) (fun _ => ?_)
  refine mt_dite (fun h => by subst h; exact fun q hq => ok_X12_fault q hq) (fun _ => ?_)
  refine mt_dite (fun h => by subst h; exact fun q hq => ok_X12_named q hq) (fun _ => ?_)
  refine mt_dite (fun h => by subst h; exact fun q hq => ok_X12_rank q hq) (fun _ => ?_)
  refine mt_dite (fun h => by subst h; exact fun q hq => ok_X12_grown q hq) (fun _ => ?_)
  refine mt_dite (fun h => by subst h; exact fun q hq => ok_X12_dropHeld q hq) (fun _ => ?_)
  refine mt_dite (fun h => by subst h; exact fun q hq => ok_X12_bind q hq) (fun _ => ?_)
  refine mt_dite (fun h => by subst h; exact fun q hq => ok_X12_isCounted q hq) (fun _ => ?_)
  refine mt_dite (fun h => by subst h; exact fun q hq => ok_X12_waitsFor q hq) (fun _ => ?_)
  refine mt_dite (fun h => by subst h; exact fun q hq => ok_X12_leafRead q hq) (fun _ => ?_)
  refine mt_dite (fun h => by subst h; exact fun q hq => ok_X12_signs q hq) (fun _ => ?_)
  refine mt_dite (fun h => by subst h; exact fun q hq => ok_X12_sumRead q hq) (fun _ => ?_)
  refine mt_dite (fun h => by subst h; exact fun q hq => ok_X12_lays q hq) (fun _ => ?_)
  refine mt_dite (fun h => by subst h; exact fun q hq => ok_X12_begins q hq) (fun _ => ?_)
  refine mt_dite (fun h => by subst h; exact fun q hq => ok_X12_loads q hq) (fun _ => ?_)
  refine mt_dite (fun h => by subst h; exact fun q hq => ok_X12_spanOf q hq) (fun _ => ?_)
  refine mt_dite (fun h => by subst h; exact fun q hq => ok_X12_pullOf q hq) (fun _ => ?_)
  refine mt_dite (fun h => by subst h; exact fun q hq => ok_X12_partOf q hq) (fun _ => ?_)
  refine mt_dite (fun h => by subst h; exact fun q hq => ok_X12_dropOf q hq) (fun _ => ?_)
  refine mt_dite (fun h => by subst h; exact fun q hq => ok_X12_firmOf q hq) (fun _ => ?_)
  refine mt_dite (fun h => by subst h; exact fun q hq => ok_X12_bounded q hq) (fun _ => ?_)
  refine mt_dite (fun h => by subst h; exact fun q hq => ok_X12_compares q hq) (fun _ => ?_)
  refine mt_dite (fun h => by subst h; exact fun q hq => ok_X12_times q hq) (fun _ => ?_)
  refine mt_dite (fun h => by subst h; exact fun q hq => ok_X12_valueOf q hq) (fun _ => ?_)
  refine mt_dite (fun h => by subst h; exact fun q hq => ok_X12_layNames q hq) (fun _ => ?_)
  refine mt_dite (fun h => by subst h; exact fun q hq => ok_X12_lawOf q hq) (fun _ => ?_)
  refine mt_dite (fun h => by subst h; exact fun q hq => ok_X12_goes q hq) (fun _ => ?_)
  refine mt_dite (fun h => by subst h; exact fun q hq => ok_X12_goesOn q hq) (fun _ => ?_)
  refine mt_dite (fun h => by subst h; exact fun q hq => ok_X12_isGate q hq) (fun _ => ?_)
  refine mt_dite (fun h => by subst h; exact fun q hq => ok_X12_fails q hq) (fun _ => ?_)
  refine mt_dite (fun h => by subst h; exact fun q hq => ok_X12_look q hq) (fun _ => ?_)
  refine mt_dite (fun h => by subst h; exact fun q hq => ok_X12_works q hq) (fun _ => ?_)
  refine mt_dite (fun h => by subst h; exact fun q hq => ok_X12_firm q hq) (fun _ => ?_)
  refine mt_dite (fun h => by subst h; exact fun q hq => ok_X12_weeks q hq) (fun _ => ?_)
  refine mt_dite (fun h => by subst h; exact fun q hq => ok_X12_sags q hq) (fun _ => ?_)
  refine mt_dite (fun h => by subst h; exact fun q hq => ok_X12_isLatched q hq) (fun _ => ?_)
  refine mt_dite (fun h => by subst h; exact fun q hq => ok_X12_latched q hq) (fun _ => ?_)
  refine mt_dite (fun h => by subst h; exact fun q hq => ok_X12_gives q hq) (fun _ => ?_)
  refine mt_dite (fun h => by subst h; exact fun q hq => ok_X12_does q hq) (fun _ => ?_)
  refine mt_dite (fun h => by subst h; exact fun q hq => ok_X12_work q hq) (fun _ => ?_)
  refine mt_dite (fun h => by subst h; exact fun q hq => ok_X12_undo q hq) (fun _ => ?_)
  refine mt_dite (fun h => by subst h; exact fun q hq => ok_X12_isBound q hq) (fun _ => ?_)
  refine mt_dite (fun h => by subst h; exact fun q hq => ok_X12_lasts q hq) (fun _ => ?_)
  refine mt_dite (fun h => by subst h; exact fun q hq => ok_X12_costOf q hq) (fun _ => ?_)
  refine mt_dite (fun h => by subst h; exact fun q hq => ok_X12_least q hq) (fun _ => ?_)
  refine mt_dite (fun h => by subst h; exact fun q hq => ok_X12_dropBy q hq) (fun _ => ?_)
  refine mt_dite (fun h => by subst h; exact fun q hq => ok_X12_way q hq) (fun _ => ?_)
  refine mt_dite (fun h => by subst h; exact fun q hq => ok_X12_enough q hq) (fun _ => ?_)
  refine mt_dite (fun h => by subst h; exact fun q hq => ok_X12_bears q hq) (fun _ => ?_)
  refine mt_dite (fun h => by subst h; exact fun q hq => ok_X12_knock q hq) (fun _ => ?_)
  refine mt_dite (fun h => by subst h; exact fun q hq => ok_X12_measure q hq) (fun _ => ?_)
  refine mt_dite (fun h => by subst h; exact fun q hq => ok_X12_strike q hq) (fun _ => ?_)
  refine mt_dite (fun h => by subst h; exact fun q hq => ok_X12_known q hq) (fun _ => ?_)
  refine mt_dite (fun h => by subst h; exact fun q hq => ok_X12_knownMany q hq) (fun _ => ?_)
  refine mt_dite (fun h => by subst h; exact fun q hq => ok_X12_layCounts q hq) (fun _ => ?_)
  refine mt_dite (fun h => by subst h; exact fun q hq => ok_X12_beginsBy q hq) (fun _ => ?_)
  refine mt_dite (fun h => by subst h; exact fun q hq => ok_X12_valueNow q hq) (fun _ => ?_)
  refine mt_dite (fun h => by subst h; exact fun q hq => ok_X12_isSo q hq) (fun _ => ?_)
  refine mt_dite (fun h => by subst h; exact fun q hq => ok_X12_isFit q hq) (fun _ => ?_)
  refine mt_dite (fun h => by subst h; exact fun q hq => ok_X12_fitting q hq) (fun _ => ?_)
  refine mt_dite (fun h => by subst h; exact fun q hq => ok_X12_fits q hq) (fun _ => ?_)
  refine mt_dite (fun h => by subst h; exact fun q hq => ok_X12_weightOf q hq) (fun _ => ?_)
  refine mt_dite (fun h => by subst h; exact fun q hq => ok_X12_common q hq) (fun _ => ?_)
  refine mt_dite (fun h => by subst h; exact fun q hq => ok_X12_odds q hq) (fun _ => ?_)
  refine mt_dite (fun h => by subst h; exact fun q hq => ok_X12_heaviest q hq) (fun _ => ?_)
  refine mt_dite (fun h => by subst h; exact fun q hq => ok_X12_test q hq) (fun _ => ?_)
  refine mt_dite (fun h => by subst h; exact fun q hq => ok_X12_lowOf q hq) (fun _ => ?_)
  refine mt_dite (fun h => by subst h; exact fun q hq => ok_X12_isAngle q hq) (fun _ => ?_)
  refine mt_dite (fun h => by subst h; exact fun q hq => ok_X12_low q hq) (fun _ => ?_)
  refine mt_dite (fun h => by subst h; exact fun q hq => ok_X12_rest q hq) (fun _ => ?_)
  refine mt_dite (fun h => by subst h; exact fun q hq => ok_X12_shutsFrom q hq) (fun _ => ?_)
  refine mt_dite (fun h => by subst h; exact fun q hq => ok_X12_shuts q hq) (fun _ => ?_)
  refine mt_dite (fun h => by subst h; exact fun q hq => ok_X12_aboveOf q hq) (fun _ => ?_)
  refine mt_dite (fun h => by subst h; exact fun q hq => ok_X12_above q hq) (fun _ => ?_)
  refine mt_dite (fun h => by subst h; exact fun q hq => ok_X12_opensTo q hq) (fun _ => ?_)
  refine mt_dite (fun h => by subst h; exact fun q hq => ok_X12_opens q hq) (fun _ => ?_)
  refine mt_dite (fun h => by subst h; exact fun q hq => ok_X12_stand q hq) (fun _ => ?_)
  refine mt_dite (fun h => by subst h; exact fun q hq => ok_X12_nextOrder q hq) (fun _ => ?_)
  refine mt_dite (fun h => by subst h; exact fun q hq => ok_X12_weekOfAll q hq) (fun _ => ?_)
  refine mt_dite (fun h => by subst h; exact fun q hq => ok_X12_sumBy q hq) (fun _ => ?_)
  refine mt_dite (fun h => by subst h; exact fun q hq => ok_X12_first q hq) (fun _ => ?_)
  refine mt_dite (fun h => by subst h; exact fun q hq => ok_X12_wind q hq) (fun _ => ?_)
  refine mt_dite (fun h => by subst h; exact fun q hq => ok_X12_keep q hq) (fun _ => ?_)
  refine mt_dite (fun h => by subst h; exact fun q hq => ok_X12_back q hq) (fun _ => ?_)
  refine mt_dite (fun h => by subst h; exact fun q hq => ok_X12_count q hq) (fun _ => ?_)
  refine mt_dite (fun h => by subst h; exact fun q hq => ok_J6_bitCount_0f7a4 q hq) (fun _ => ?_)
  refine mt_dite (fun h => by subst h; exact fun q hq => ok_J0_length_8abf5 q hq) (fun _ => ?_)
  refine mt_dite (fun h => by subst h; exact fun q hq => ok_J0_charAt_5068e q hq) (fun _ => ?_)
  refine mt_dite (fun h => by subst h; exact fun q hq => ok_J0_coder_7d493 q hq) (fun _ => ?_)
  refine mt_dite (fun h => by subst h; exact fun q hq => ok_J0_isLatin1_aae02 q hq) (fun _ => ?_)
  refine mt_dite (fun h => by subst h; exact fun q hq => ok_J0_checkIndex_df160 q hq) (fun _ => ?_)
  refine mt_dite (fun h => by subst h; exact fun q hq => ok_J1_charAt_3b067 q hq) (fun _ => ?_)
  refine mt_dite (fun h => by subst h; exact fun q hq => ok_J3_checkIndex_8e157 q hq) (fun _ => ?_)
  refine mt_dite (fun h => by subst h; exact fun q hq => ok_L_law q hq) (fun _ => ?_)
  exact fun q hq => absurd hq List.not_mem_nil
theorem in_X0 : ∀ w ∈ u_ws RX0 TX0 8, w ∈ cv_T := by
  have h : (u_ws RX0 TX0 8).all (fun w => decide (w ∈ lw_tbl) && goodWord w) = true := by decide +kernel
  intro w hw
  have := List.all_eq_true.mp h w hw
  simp only [Bool.and_eq_true, decide_eq_true_eq] at this
  exact List.mem_filter.mpr this
theorem kd_X0 : ∀ k, k < 8 → (fk_all.getD 0 [])[k]? = some (cv_kd (tyX0 k)) ∧ cv_kd (tyX0 k) ≤ 4 ∧ cv_kd (tyX0 k) ≠ 1 := by decide +kernel
theorem in_X1 : ∀ w ∈ u_ws RX1 TX1 17, w ∈ cv_T := by
  have h : (u_ws RX1 TX1 17).all (fun w => decide (w ∈ lw_tbl) && goodWord w) = true := by decide +kernel
  intro w hw
  have := List.all_eq_true.mp h w hw
  simp only [Bool.and_eq_true, decide_eq_true_eq] at this
  exact List.mem_filter.mpr this
theorem kd_X1 : ∀ k, k < 17 → (fk_all.getD 1 [])[k]? = some (cv_kd (tyX1 k)) ∧ cv_kd (tyX1 k) ≤ 4 ∧ cv_kd (tyX1 k) ≠ 1 := by decide +kernel
theorem in_X2 : ∀ w ∈ u_ws RX2 TX2 5, w ∈ cv_T := by
  have h : (u_ws RX2 TX2 5).all (fun w => decide (w ∈ lw_tbl) && goodWord w) = true := by decide +kernel
  intro w hw
  have := List.all_eq_true.mp h w hw
  simp only [Bool.and_eq_true, decide_eq_true_eq] at this
  exact List.mem_filter.mpr this
theorem kd_X2 : ∀ k, k < 5 → (fk_all.getD 2 [])[k]? = some (cv_kd (tyX2 k)) ∧ cv_kd (tyX2 k) ≤ 4 ∧ cv_kd (tyX2 k) ≠ 1 := by decide +kernel
theorem in_X3 : ∀ w ∈ u_ws RX3 TX3 11, w ∈ cv_T := by
  have h : (u_ws RX3 TX3 11).all (fun w => decide (w ∈ lw_tbl) && goodWord w) = true := by decide +kernel
  intro w hw
  have := List.all_eq_true.mp h w hw
  simp only [Bool.and_eq_true, decide_eq_true_eq] at this
  exact List.mem_filter.mpr this
theorem kd_X3 : ∀ k, k < 11 → (fk_all.getD 3 [])[k]? = some (cv_kd (tyX3 k)) ∧ cv_kd (tyX3 k) ≤ 4 ∧ cv_kd (tyX3 k) ≠ 1 := by decide +kernel
theorem in_X4 : ∀ w ∈ u_ws RX4 TX4 20, w ∈ cv_T := by
  have h : (u_ws RX4 TX4 20).all (fun w => decide (w ∈ lw_tbl) && goodWord w) = true := by decide +kernel
  intro w hw
  have := List.all_eq_true.mp h w hw
  simp only [Bool.and_eq_true, decide_eq_true_eq] at this
  exact List.mem_filter.mpr this
theorem kd_X4 : ∀ k, k < 20 → (fk_all.getD 4 [])[k]? = some (cv_kd (tyX4 k)) ∧ cv_kd (tyX4 k) ≤ 4 ∧ cv_kd (tyX4 k) ≠ 1 := by decide +kernel
theorem in_X5 : ∀ w ∈ u_ws RX5 TX5 6, w ∈ cv_T := by
  have h : (u_ws RX5 TX5 6).all (fun w => decide (w ∈ lw_tbl) && goodWord w) = true := by decide +kernel
  intro w hw
  have := List.all_eq_true.mp h w hw
  simp only [Bool.and_eq_true, decide_eq_true_eq] at this
  exact List.mem_filter.mpr this
theorem kd_X5 : ∀ k, k < 6 → (fk_all.getD 5 [])[k]? = some (cv_kd (tyX5 k)) ∧ cv_kd (tyX5 k) ≤ 4 ∧ cv_kd (tyX5 k) ≠ 1 := by decide +kernel
theorem in_X6 : ∀ w ∈ u_ws RX6 TX6 7, w ∈ cv_T := by
  have h : (u_ws RX6 TX6 7).all (fun w => decide (w ∈ lw_tbl) && goodWord w) = true := by decide +kernel
  intro w hw
  have := List.all_eq_true.mp h w hw
  simp only [Bool.and_eq_true, decide_eq_true_eq] at this
  exact List.mem_filter.mpr this
theorem kd_X6 : ∀ k, k < 7 → (fk_all.getD 6 [])[k]? = some (cv_kd (tyX6 k)) ∧ cv_kd (tyX6 k) ≤ 4 ∧ cv_kd (tyX6 k) ≠ 1 := by decide +kernel
theorem in_X7 : ∀ w ∈ u_ws RX7 TX7 17, w ∈ cv_T := by
  have h : (u_ws RX7 TX7 17).all (fun w => decide (w ∈ lw_tbl) && goodWord w) = true := by decide +kernel
  intro w hw
  have := List.all_eq_true.mp h w hw
  simp only [Bool.and_eq_true, decide_eq_true_eq] at this
  exact List.mem_filter.mpr this
theorem kd_X7 : ∀ k, k < 17 → (fk_all.getD 7 [])[k]? = some (cv_kd (tyX7 k)) ∧ cv_kd (tyX7 k) ≤ 4 ∧ cv_kd (tyX7 k) ≠ 1 := by decide +kernel
theorem in_X8 : ∀ w ∈ u_ws RX8 TX8 3, w ∈ cv_T := by
  have h : (u_ws RX8 TX8 3).all (fun w => decide (w ∈ lw_tbl) && goodWord w) = true := by decide +kernel
  intro w hw
  have := List.all_eq_true.mp h w hw
  simp only [Bool.and_eq_true, decide_eq_true_eq] at this
  exact List.mem_filter.mpr this
theorem kd_X8 : ∀ k, k < 3 → (fk_all.getD 8 [])[k]? = some (cv_kd (tyX8 k)) ∧ cv_kd (tyX8 k) ≤ 4 ∧ cv_kd (tyX8 k) ≠ 1 := by decide +kernel
theorem in_X9 : ∀ w ∈ u_ws RX9 TX9 4, w ∈ cv_T := by
  have h : (u_ws RX9 TX9 4).all (fun w => decide (w ∈ lw_tbl) && goodWord w) = true := by decide +kernel
  intro w hw
  have := List.all_eq_true.mp h w hw
  simp only [Bool.and_eq_true, decide_eq_true_eq] at this
  exact List.mem_filter.mpr this
theorem kd_X9 : ∀ k, k < 4 → (fk_all.getD 9 [])[k]? = some (cv_kd (tyX9 k)) ∧ cv_kd (tyX9 k) ≤ 4 ∧ cv_kd (tyX9 k) ≠ 1 := by decide +kernel
theorem in_X10 : ∀ w ∈ u_ws RX10 TX10 3, w ∈ cv_T := by
  have h : (u_ws RX10 TX10 3).all (fun w => decide (w ∈ lw_tbl) && goodWord w) = true := by decide +kernel
  intro w hw
  have := List.all_eq_true.mp h w hw
  simp only [Bool.and_eq_true, decide_eq_true_eq] at this
  exact List.mem_filter.mpr this
theorem kd_X10 : ∀ k, k < 3 → (fk_all.getD 10 [])[k]? = some (cv_kd (tyX10 k)) ∧ cv_kd (tyX10 k) ≤ 4 ∧ cv_kd (tyX10 k) ≠ 1 := by decide +kernel
theorem in_X11 : ∀ w ∈ u_ws RX11 TX11 16, w ∈ cv_T := by
  have h : (u_ws RX11 TX11 16).all (fun w => decide (w ∈ lw_tbl) && goodWord w) = true := by decide +kernel
  intro w hw
  have := List.all_eq_true.mp h w hw
  simp only [Bool.and_eq_true, decide_eq_true_eq] at this
  exact List.mem_filter.mpr this
theorem kd_X11 : ∀ k, k < 16 → (fk_all.getD 11 [])[k]? = some (cv_kd (tyX11 k)) ∧ cv_kd (tyX11 k) ≤ 4 ∧ cv_kd (tyX11 k) ≠ 1 := by decide +kernel
theorem in_X12 : ∀ w ∈ u_ws RX12 TX12 69, w ∈ cv_T := by
  have h : (u_ws RX12 TX12 69).all (fun w => decide (w ∈ lw_tbl) && goodWord w) = true := by decide +kernel
  intro w hw
  have := List.all_eq_true.mp h w hw
  simp only [Bool.and_eq_true, decide_eq_true_eq] at this
  exact List.mem_filter.mpr this
theorem kd_X12 : ∀ k, k < 69 → (fk_all.getD 12 [])[k]? = some (cv_kd (tyX12 k)) ∧ cv_kd (tyX12 k) ≤ 4 ∧ cv_kd (tyX12 k) ≠ 1 := by decide +kernel
theorem cls_all : cv_cls cv_T vwCl fk_all := by
  intro ci C T N h
  match ci, h with
  | 0, h => cases h; exact ⟨in_X0, nmX0, tyX0, fk_all.getD 0 [], tyX0_ok, rfl, rfl, kd_X0⟩
  | 1, h => cases h; exact ⟨in_X1, nmX1, tyX1, fk_all.getD 1 [], tyX1_ok, rfl, rfl, kd_X1⟩
  | 2, h => cases h; exact ⟨in_X2, nmX2, tyX2, fk_all.getD 2 [], tyX2_ok, rfl, rfl, kd_X2⟩
  | 3, h => cases h; exact ⟨in_X3, nmX3, tyX3, fk_all.getD 3 [], tyX3_ok, rfl, rfl, kd_X3⟩
  | 4, h => cases h; exact ⟨in_X4, nmX4, tyX4, fk_all.getD 4 [], tyX4_ok, rfl, rfl, kd_X4⟩
  | 5, h => cases h; exact ⟨in_X5, nmX5, tyX5, fk_all.getD 5 [], tyX5_ok, rfl, rfl, kd_X5⟩
  | 6, h => cases h; exact ⟨in_X6, nmX6, tyX6, fk_all.getD 6 [], tyX6_ok, rfl, rfl, kd_X6⟩
  | 7, h => cases h; exact ⟨in_X7, nmX7, tyX7, fk_all.getD 7 [], tyX7_ok, rfl, rfl, kd_X7⟩
  | 8, h => cases h; exact ⟨in_X8, nmX8, tyX8, fk_all.getD 8 [], tyX8_ok, rfl, rfl, kd_X8⟩
  | 9, h => cases h; exact ⟨in_X9, nmX9, tyX9, fk_all.getD 9 [], tyX9_ok, rfl, rfl, kd_X9⟩
  | 10, h => cases h; exact ⟨in_X10, nmX10, tyX10, fk_all.getD 10 [], tyX10_ok, rfl, rfl, kd_X10⟩
  | 11, h => cases h; exact ⟨in_X11, nmX11, tyX11, fk_all.getD 11 [], tyX11_ok, rfl, rfl, kd_X11⟩
  | 12, h => cases h; exact ⟨in_X12, nmX12, tyX12, fk_all.getD 12 [], tyX12_ok, rfl, rfl, kd_X12⟩
  | j + 13, h => exact absurd h (by show ¬ ([] : List vw_C)[j]? = some (C, T, N); simp)
theorem al_all : cv_All cv_T vwCl fk_all mt_all := by
  refine ⟨cv_T_good, cls_all, ⟨TX1, 17, rfl⟩, ⟨TX7, 17, rfl⟩, by decide, fun j hj => ?_, ok_all⟩
  rw [mt_hi j (by omega)]
  rfl
