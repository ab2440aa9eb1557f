/-! ===== every method keeps its contract ===== -/
theorem cw_kn {F : cv_F} {mt : Nat → cv_M} {Ds : List cw_D} {sh : List Nat} {G : Int} {P : cv_H → Prop} : ∀ K ∈ ([] : List cw_K), cw_Holds F mt Ds sh G P K ∧ cw_rmok mt K := fun K h => absurd h List.not_mem_nil
theorem cw_kc {F : cv_F} {mt : Nat → cv_M} {Ds : List cw_D} {sh : List Nat} {G : Int} {P : cv_H → Prop} {k : cw_K} {l : List cw_K} (h : cw_Holds F mt Ds sh G P k) (r : cw_rmok mt k) (t : ∀ K ∈ l, cw_Holds F mt Ds sh G P K ∧ cw_rmok mt K) : ∀ K ∈ k :: l, cw_Holds F mt Ds sh G P K ∧ cw_rmok mt K := by
  intro K hK
  rcases List.mem_cons.mp hK with rfl | hK
  · exact ⟨h, r⟩
  · exact t K hK
section SPZ
variable {G : Int}
set_option maxRecDepth 10000
theorem hz_X6_isWord : cw_Holds fk_all mt_all cw_Ds cw_sh G (cw_PP G) kk_X6_isWord := cw_sound (cw_PPok G) cw_dpok_all (by decide) (M := mt_X6_isWord) rfl cw_kn ck_X6_isWord
theorem rm_X6_isWord : cw_rmok mt_all kk_X6_isWord := ⟨rfl, rfl, rfl, rfl, rfl⟩
theorem hz_X0_signOf : cw_Holds fk_all mt_all cw_Ds cw_sh G (cw_PP G) kk_X0_signOf := cw_sound (cw_PPok G) cw_dpok_all (by decide) (M := mt_X0_signOf) rfl (cw_kc hz_X6_isWord rm_X6_isWord cw_kn) ck_X0_signOf
theorem rm_X0_signOf : cw_rmok mt_all kk_X0_signOf := ⟨rfl, rfl, rfl, rfl, rfl⟩
theorem hz_X0_latestHeld : cw_Holds fk_all mt_all cw_Ds cw_sh G (cw_PP G) kk_X0_latestHeld := cw_sound (cw_PPok G) cw_dpok_all (by decide) (M := mt_X0_latestHeld) rfl cw_kn ck_X0_latestHeld
theorem rm_X0_latestHeld : cw_rmok mt_all kk_X0_latestHeld := ⟨rfl, rfl, rfl, rfl, rfl⟩
theorem hz_X0_rankOf : cw_Holds fk_all mt_all cw_Ds cw_sh G (cw_PP G) kk_X0_rankOf := cw_sound (cw_PPok G) cw_dpok_all (by decide) (M := mt_X0_rankOf) rfl cw_kn ck_X0_rankOf
theorem rm_X0_rankOf : cw_rmok mt_all kk_X0_rankOf := ⟨rfl, rfl, rfl, rfl, rfl⟩
theorem hz_X4_addCode : cw_Holds fk_all mt_all cw_Ds cw_sh G (cw_PP G) kk_X4_addCode := cw_sound (cw_PPok G) cw_dpok_all (by decide) (M := mt_X4_addCode) rfl cw_kn ck_X4_addCode
theorem rm_X4_addCode : cw_rmok mt_all kk_X4_addCode := ⟨rfl, rfl, rfl, rfl, rfl⟩
theorem hz_X0_release : cw_Holds fk_all mt_all cw_Ds cw_sh G (cw_PP G) kk_X0_release := cw_sound (cw_PPok G) cw_dpok_all (by decide) (M := mt_X0_release) rfl (cw_kc hz_X0_latestHeld rm_X0_latestHeld (cw_kc hz_X0_rankOf rm_X0_rankOf (cw_kc hz_X4_addCode rm_X4_addCode cw_kn))) ck_X0_release
theorem rm_X0_release : cw_rmok mt_all kk_X0_release := ⟨rfl, rfl, rfl, rfl, rfl⟩
theorem hz_X0_hold : cw_Holds fk_all mt_all cw_Ds cw_sh G (cw_PP G) kk_X0_hold := cw_sound (cw_PPok G) cw_dpok_all (by decide) (M := mt_X0_hold) rfl cw_kn ck_X0_hold
theorem rm_X0_hold : cw_rmok mt_all kk_X0_hold := ⟨rfl, rfl, rfl, rfl, rfl⟩
theorem hz_X0_openParen : cw_Holds fk_all mt_all cw_Ds cw_sh G (cw_PP G) kk_X0_openParen := cw_sound (cw_PPok G) cw_dpok_all (by decide) (M := mt_X0_openParen) rfl (cw_kc hz_X0_hold rm_X0_hold cw_kn) ck_X0_openParen
theorem rm_X0_openParen : cw_rmok mt_all kk_X0_openParen := ⟨rfl, rfl, rfl, rfl, rfl⟩
theorem hz_X0_holdKnot : cw_Holds fk_all mt_all cw_Ds cw_sh G (cw_PP G) kk_X0_holdKnot := cw_sound (cw_PPok G) cw_dpok_all (by decide) (M := mt_X0_holdKnot) rfl (cw_kc hz_X0_hold rm_X0_hold cw_kn) ck_X0_holdKnot
theorem rm_X0_holdKnot : cw_rmok mt_all kk_X0_holdKnot := ⟨rfl, rfl, rfl, rfl, rfl⟩
theorem hz_X0_nameOf : cw_Holds fk_all mt_all cw_Ds cw_sh G (cw_PP G) kk_X0_nameOf := cw_sound (cw_PPok G) cw_dpok_all (by decide) (M := mt_X0_nameOf) rfl cw_kn ck_X0_nameOf
theorem rm_X0_nameOf : cw_rmok mt_all kk_X0_nameOf := ⟨rfl, rfl, rfl, rfl, rfl⟩
theorem hz_X0_valueKnot : cw_Holds fk_all mt_all cw_Ds cw_sh G (cw_PP G) kk_X0_valueKnot := cw_sound (cw_PPok G) cw_dpok_all (by decide) (M := mt_X0_valueKnot) rfl (cw_kc hz_X0_nameOf rm_X0_nameOf cw_kn) ck_X0_valueKnot
theorem rm_X0_valueKnot : cw_rmok mt_all kk_X0_valueKnot := ⟨rfl, rfl, rfl, rfl, rfl⟩
theorem hz_X0_readValue : cw_Holds fk_all mt_all cw_Ds cw_sh G (cw_PP G) kk_X0_readValue := cw_sound (cw_PPok G) cw_dpok_all (by decide) (M := mt_X0_readValue) rfl (cw_kc hz_X0_holdKnot rm_X0_holdKnot (cw_kc hz_X0_openParen rm_X0_openParen (cw_kc hz_X0_valueKnot rm_X0_valueKnot (cw_kc hz_X4_addCode rm_X4_addCode (cw_kc hz_X6_isWord rm_X6_isWord cw_kn))))) ck_X0_readValue
theorem rm_X0_readValue : cw_rmok mt_all kk_X0_readValue := ⟨rfl, rfl, rfl, rfl, rfl⟩
theorem hz_X0_readJoint : cw_Holds fk_all mt_all cw_Ds cw_sh G (cw_PP G) kk_X0_readJoint := cw_sound (cw_PPok G) cw_dpok_all (by decide) (M := mt_X0_readJoint) rfl (cw_kc hz_X0_holdKnot rm_X0_holdKnot (cw_kc hz_X0_latestHeld rm_X0_latestHeld (cw_kc hz_X0_rankOf rm_X0_rankOf (cw_kc hz_X0_release rm_X0_release (cw_kc hz_X0_signOf rm_X0_signOf cw_kn))))) ck_X0_readJoint
theorem rm_X0_readJoint : cw_rmok mt_all kk_X0_readJoint := ⟨rfl, rfl, rfl, rfl, rfl⟩
theorem hz_X6_letterBits : cw_Holds fk_all mt_all cw_Ds cw_sh G (cw_PP G) kk_X6_letterBits := cw_sound (cw_PPok G) cw_dpok_all (by decide) (M := mt_X6_letterBits) rfl cw_kn ck_X6_letterBits
theorem rm_X6_letterBits : cw_rmok mt_all kk_X6_letterBits := ⟨rfl, rfl, rfl, rfl, rfl⟩
theorem hz_X6_readLetters : cw_Holds fk_all mt_all cw_Ds cw_sh G (cw_PP G) kk_X6_readLetters := cw_sound (cw_PPok G) cw_dpok_all (by decide) (M := mt_X6_readLetters) rfl (cw_kc hz_X6_letterBits rm_X6_letterBits cw_kn) ck_X6_readLetters
theorem rm_X6_readLetters : cw_rmok mt_all kk_X6_readLetters := ⟨rfl, rfl, rfl, rfl, rfl⟩
theorem hz_X6_readDigits : cw_Holds fk_all mt_all cw_Ds cw_sh G (cw_PP G) kk_X6_readDigits := cw_sound (cw_PPok G) cw_dpok_all (by decide) (M := mt_X6_readDigits) rfl cw_kn ck_X6_readDigits
theorem rm_X6_readDigits : cw_rmok mt_all kk_X6_readDigits := ⟨rfl, rfl, rfl, rfl, rfl⟩
theorem hz_X6_takes : cw_Holds fk_all mt_all cw_Ds cw_sh G (cw_PP G) kk_X6_takes := cw_sound (cw_PPok G) cw_dpok_all (by decide) (M := mt_X6_takes) rfl cw_kn ck_X6_takes
theorem rm_X6_takes : cw_rmok mt_all kk_X6_takes := ⟨rfl, rfl, rfl, rfl, rfl⟩
theorem hz_X6_readSign : cw_Holds fk_all mt_all cw_Ds cw_sh G (cw_PP G) kk_X6_readSign := cw_sound (cw_PPok G) cw_dpok_all (by decide) (M := mt_X6_readSign) rfl (cw_kc hz_X6_takes rm_X6_takes cw_kn) ck_X6_readSign
theorem rm_X6_readSign : cw_rmok mt_all kk_X6_readSign := ⟨rfl, rfl, rfl, rfl, rfl⟩
theorem hz_X6_step : cw_Holds fk_all mt_all cw_Ds cw_sh G (cw_PP G) kk_X6_step := cw_sound (cw_PPok G) cw_dpok_all (by decide) (M := mt_X6_step) rfl (cw_kc hz_X6_readDigits rm_X6_readDigits (cw_kc hz_X6_readLetters rm_X6_readLetters (cw_kc hz_X6_readSign rm_X6_readSign cw_kn))) ck_X6_step
theorem rm_X6_step : cw_rmok mt_all kk_X6_step := ⟨rfl, rfl, rfl, rfl, rfl⟩
theorem hz_X0_readInto : cw_Holds fk_all mt_all cw_Ds cw_sh G (cw_PP G) kk_X0_readInto := cw_sound (cw_PPok G) cw_dpok_all (by decide) (M := mt_X0_readInto) rfl (cw_kc hz_X0_readJoint rm_X0_readJoint (cw_kc hz_X0_readValue rm_X0_readValue (cw_kc hz_X0_release rm_X0_release (cw_kc hz_X0_signOf rm_X0_signOf (cw_kc hz_X6_step rm_X6_step cw_kn))))) ck_X0_readInto
theorem rm_X0_readInto : cw_rmok mt_all kk_X0_readInto := ⟨rfl, rfl, rfl, rfl, rfl⟩
theorem hz_X4_moreBy : cw_Holds fk_all mt_all cw_Ds cw_sh G (cw_PP G) kk_X4_moreBy := cw_sound (cw_PPok G) cw_dpok_all (by decide) (M := mt_X4_moreBy) rfl cw_kn ck_X4_moreBy
theorem rm_X4_moreBy : cw_rmok mt_all kk_X4_moreBy := ⟨rfl, rfl, rfl, rfl, rfl⟩
theorem hz_X1_setCauses : cw_Holds fk_all mt_all cw_Ds cw_sh G (cw_PP G) kk_X1_setCauses := cw_sound (cw_PPok G) cw_dpok_all (by decide) (M := mt_X1_setCauses) rfl (cw_kc hz_X4_moreBy rm_X4_moreBy cw_kn) ck_X1_setCauses
theorem rm_X1_setCauses : cw_rmok mt_all kk_X1_setCauses := ⟨rfl, rfl, rfl, rfl, rfl⟩
theorem hz_X1_begin : cw_Holds fk_all mt_all cw_Ds cw_sh G (cw_PP G) kk_X1_begin := cw_sound (cw_PPok G) cw_dpok_all (by decide) (M := mt_X1_begin) rfl (cw_kc hz_X1_setCauses rm_X1_setCauses cw_kn) ck_X1_begin
theorem rm_X1_begin : cw_rmok mt_all kk_X1_begin := ⟨rfl, rfl, rfl, rfl, rfl⟩
theorem hz_X1_copy : cw_Holds fk_all mt_all cw_Ds cw_sh G (cw_PP G) kk_X1_copy := cw_sound (cw_PPok G) cw_dpok_all (by decide) (M := mt_X1_copy) rfl cw_kn ck_X1_copy
theorem rm_X1_copy : cw_rmok mt_all kk_X1_copy := ⟨rfl, rfl, rfl, rfl, rfl⟩
theorem hz_X7_span : cw_Holds fk_all mt_all cw_Ds cw_sh G (cw_PP G) kk_X7_span := cw_sound (cw_PPok G) cw_dpok_all (by decide) (M := mt_X7_span) rfl cw_kn ck_X7_span
theorem rm_X7_span : cw_rmok mt_all kk_X7_span := ⟨rfl, rfl, rfl, rfl, rfl⟩
theorem hz_X1_pull : cw_Holds fk_all mt_all cw_Ds cw_sh G (cw_PP G) kk_X1_pull := cw_sound (cw_PPok G) cw_dpok_all (by decide) (M := mt_X1_pull) rfl (cw_kc hz_X7_span rm_X7_span cw_kn) ck_X1_pull
theorem rm_X1_pull : cw_rmok mt_all kk_X1_pull := ⟨rfl, rfl, rfl, rfl, rfl⟩
theorem hz_X1_leanPart : cw_Holds fk_all mt_all cw_Ds cw_sh G (cw_PP G) kk_X1_leanPart := cw_sound (cw_PPok G) cw_dpok_all (by decide) (M := mt_X1_leanPart) rfl cw_kn ck_X1_leanPart
theorem rm_X1_leanPart : cw_rmok mt_all kk_X1_leanPart := ⟨rfl, rfl, rfl, rfl, rfl⟩
theorem hz_X1_hooksPart : cw_Holds fk_all mt_all cw_Ds cw_sh G (cw_PP G) kk_X1_hooksPart := cw_sound (cw_PPok G) cw_dpok_all (by decide) (M := mt_X1_hooksPart) rfl (cw_kc hz_X7_span rm_X7_span cw_kn) ck_X1_hooksPart
theorem rm_X1_hooksPart : cw_rmok mt_all kk_X1_hooksPart := ⟨rfl, rfl, rfl, rfl, rfl⟩
theorem hz_X1_drop : cw_Holds fk_all mt_all cw_Ds cw_sh G (cw_PP G) kk_X1_drop := cw_sound (cw_PPok G) cw_dpok_all (by decide) (M := mt_X1_drop) rfl (cw_kc hz_X1_hooksPart rm_X1_hooksPart (cw_kc hz_X1_leanPart rm_X1_leanPart cw_kn)) ck_X1_drop
theorem rm_X1_drop : cw_rmok mt_all kk_X1_drop := ⟨rfl, rfl, rfl, rfl, rfl⟩
theorem hz_X1_measured : cw_Holds fk_all mt_all cw_Ds cw_sh G (cw_PP G) kk_X1_measured := cw_sound (cw_PPok G) cw_dpok_all (by decide) (M := mt_X1_measured) rfl (cw_kc hz_X1_drop rm_X1_drop cw_kn) ck_X1_measured
theorem rm_X1_measured : cw_rmok mt_all kk_X1_measured := ⟨rfl, rfl, rfl, rfl, rfl⟩
theorem hz_X1_isLatched : cw_Holds fk_all mt_all cw_Ds cw_sh G (cw_PP G) kk_X1_isLatched := cw_sound (cw_PPok G) cw_dpok_all (by decide) (M := mt_X1_isLatched) rfl (cw_kc hz_X1_drop rm_X1_drop cw_kn) ck_X1_isLatched
theorem rm_X1_isLatched : cw_rmok mt_all kk_X1_isLatched := ⟨rfl, rfl, rfl, rfl, rfl⟩
theorem hz_X4_isWork : cw_Holds fk_all mt_all cw_Ds cw_sh G (cw_PP G) kk_X4_isWork := cw_sound (cw_PPok G) cw_dpok_all (by decide) (M := mt_X4_isWork) rfl cw_kn ck_X4_isWork
theorem rm_X4_isWork : cw_rmok mt_all kk_X4_isWork := ⟨rfl, rfl, rfl, rfl, rfl⟩
theorem hz_X1_take : cw_Holds fk_all mt_all cw_Ds cw_sh G (cw_PP G) kk_X1_take := cw_sound (cw_PPok G) cw_dpok_all (by decide) (M := mt_X1_take) rfl (cw_kc hz_X4_isWork rm_X4_isWork cw_kn) ck_X1_take
theorem rm_X1_take : cw_rmok mt_all kk_X1_take := ⟨rfl, rfl, rfl, rfl, rfl⟩
theorem hz_X1_grow : cw_Holds fk_all mt_all cw_Ds cw_sh G (cw_PP G) kk_X1_grow := cw_sound (cw_PPok G) cw_dpok_all (by decide) (M := mt_X1_grow) rfl cw_kn ck_X1_grow
theorem rm_X1_grow : cw_rmok mt_all kk_X1_grow := ⟨rfl, rfl, rfl, rfl, rfl⟩
theorem hz_X11_isAngle : cw_Holds fk_all mt_all cw_Ds cw_sh G (cw_PP G) kk_X11_isAngle := cw_sound (cw_PPok G) cw_dpok_all (by decide) (M := mt_X11_isAngle) rfl cw_kn ck_X11_isAngle
theorem rm_X11_isAngle : cw_rmok mt_all kk_X11_isAngle := ⟨rfl, rfl, rfl, rfl, rfl⟩
theorem hz_X1_lowHung : cw_Holds fk_all mt_all cw_Ds cw_sh G (cw_PP G) kk_X1_lowHung := cw_sound (cw_PPok G) cw_dpok_all (by decide) (M := mt_X1_lowHung) rfl (cw_kc hz_X11_isAngle rm_X11_isAngle (cw_kc hz_X7_span rm_X7_span cw_kn)) ck_X1_lowHung
theorem rm_X1_lowHung : cw_rmok mt_all kk_X1_lowHung := ⟨rfl, rfl, rfl, rfl, rfl⟩
theorem hz_X1_aboveHung : cw_Holds fk_all mt_all cw_Ds cw_sh G (cw_PP G) kk_X1_aboveHung := cw_sound (cw_PPok G) cw_dpok_all (by decide) (M := mt_X1_aboveHung) rfl (cw_kc hz_X11_isAngle rm_X11_isAngle (cw_kc hz_X1_drop rm_X1_drop (cw_kc hz_X1_lowHung rm_X1_lowHung (cw_kc hz_X7_span rm_X7_span cw_kn)))) ck_X1_aboveHung
theorem rm_X1_aboveHung : cw_rmok mt_all kk_X1_aboveHung := ⟨rfl, rfl, rfl, rfl, rfl⟩
theorem hz_X1_standsWith : cw_Holds fk_all mt_all cw_Ds cw_sh G (cw_PP G) kk_X1_standsWith := cw_sound (cw_PPok G) cw_dpok_all (by decide) (M := mt_X1_standsWith) rfl (cw_kc hz_X1_aboveHung rm_X1_aboveHung (cw_kc hz_X1_lowHung rm_X1_lowHung cw_kn)) ck_X1_standsWith
theorem rm_X1_standsWith : cw_rmok mt_all kk_X1_standsWith := ⟨rfl, rfl, rfl, rfl, rfl⟩
theorem hz_X2_forget : cw_Holds fk_all mt_all cw_Ds cw_sh G (cw_PP G) kk_X2_forget := cw_sound (cw_PPok G) cw_dpok_all (by decide) (M := mt_X2_forget) rfl cw_kn ck_X2_forget
theorem rm_X2_forget : cw_rmok mt_all kk_X2_forget := ⟨rfl, rfl, rfl, rfl, rfl⟩
theorem hz_X2_put : cw_Holds fk_all mt_all cw_Ds cw_sh G (cw_PP G) kk_X2_put := cw_sound (cw_PPok G) cw_dpok_all (by decide) (M := mt_X2_put) rfl cw_kn ck_X2_put
theorem rm_X2_put : cw_rmok mt_all kk_X2_put := ⟨rfl, rfl, rfl, rfl, rfl⟩
theorem hz_X4_firmIn : cw_Holds fk_all mt_all cw_Ds cw_sh G (cw_PP G) kk_X4_firmIn := cw_sound (cw_PPok G) cw_dpok_all (by decide) (M := mt_X4_firmIn) rfl cw_kn ck_X4_firmIn
theorem rm_X4_firmIn : cw_rmok mt_all kk_X4_firmIn := ⟨rfl, rfl, rfl, rfl, rfl⟩
theorem hz_X2_see : cw_Holds fk_all mt_all cw_Ds cw_sh G (cw_PP G) kk_X2_see := cw_sound (cw_PPok G) cw_dpok_all (by decide) (M := mt_X2_see) rfl (cw_kc hz_X1_drop rm_X1_drop (cw_kc hz_X1_pull rm_X1_pull (cw_kc hz_X2_put rm_X2_put (cw_kc hz_X4_firmIn rm_X4_firmIn cw_kn)))) ck_X2_see
theorem rm_X2_see : cw_rmok mt_all kk_X2_see := ⟨rfl, rfl, rfl, rfl, rfl⟩
theorem hz_X4_isLaw : cw_Holds fk_all mt_all cw_Ds cw_sh G (cw_PP G) kk_X4_isLaw := cw_sound (cw_PPok G) cw_dpok_all (by decide) (M := mt_X4_isLaw) rfl cw_kn ck_X4_isLaw
theorem rm_X4_isLaw : cw_rmok mt_all kk_X4_isLaw := ⟨rfl, rfl, rfl, rfl, rfl⟩
theorem hz_X2_valueOf : cw_Holds fk_all mt_all cw_Ds cw_sh G (cw_PP G) kk_X2_valueOf := cw_sound (cw_PPok G) cw_dpok_all (by decide) (M := mt_X2_valueOf) rfl cw_kn ck_X2_valueOf
theorem rm_X2_valueOf : cw_rmok mt_all kk_X2_valueOf := ⟨rfl, rfl, rfl, rfl, rfl⟩
theorem hz_X2_bounded : cw_Holds fk_all mt_all cw_Ds cw_sh G (cw_PP G) kk_X2_bounded := cw_sound (cw_PPok G) cw_dpok_all (by decide) (M := mt_X2_bounded) rfl cw_kn ck_X2_bounded
theorem rm_X2_bounded : cw_rmok mt_all kk_X2_bounded := ⟨rfl, rfl, rfl, rfl, rfl⟩
theorem hz_X2_times : cw_Holds fk_all mt_all cw_Ds cw_sh G (cw_PP G) kk_X2_times := cw_sound (cw_PPok G) cw_dpok_all (by decide) (M := mt_X2_times) rfl cw_kn ck_X2_times
theorem rm_X2_times : cw_rmok mt_all kk_X2_times := ⟨rfl, rfl, rfl, rfl, rfl⟩
theorem hz_X2_by : cw_Holds fk_all mt_all cw_Ds cw_sh G (cw_PP G) kk_X2_by := cw_sound (cw_PPok G) cw_dpok_all (by decide) (M := mt_X2_by) rfl cw_kn ck_X2_by
theorem rm_X2_by : cw_rmok mt_all kk_X2_by := ⟨rfl, rfl, rfl, rfl, rfl⟩
theorem hz_X2_join : cw_Holds fk_all mt_all cw_Ds cw_sh G (cw_PP G) kk_X2_join := cw_sound (cw_PPok G) cw_dpok_all (by decide) (M := mt_X2_join) rfl (cw_kc hz_X2_bounded rm_X2_bounded (cw_kc hz_X2_by rm_X2_by (cw_kc hz_X2_times rm_X2_times cw_kn))) ck_X2_join
theorem rm_X2_join : cw_rmok mt_all kk_X2_join := ⟨rfl, rfl, rfl, rfl, rfl⟩
theorem hz_X2_workOut : cw_Holds fk_all mt_all cw_Ds cw_sh G (cw_PP G) kk_X2_workOut := cw_sound (cw_PPok G) cw_dpok_all (by decide) (M := mt_X2_workOut) rfl (cw_kc hz_X2_join rm_X2_join (cw_kc hz_X2_valueOf rm_X2_valueOf cw_kn)) ck_X2_workOut
theorem rm_X2_workOut : cw_rmok mt_all kk_X2_workOut := ⟨rfl, rfl, rfl, rfl, rfl⟩
theorem hz_X2_refresh : cw_Holds fk_all mt_all cw_Ds cw_sh G (cw_PP G) kk_X2_refresh := cw_sound (cw_PPok G) cw_dpok_all (by decide) (M := mt_X2_refresh) rfl (cw_kc hz_X2_workOut rm_X2_workOut (cw_kc hz_X4_isLaw rm_X4_isLaw cw_kn)) ck_X2_refresh
theorem rm_X2_refresh : cw_rmok mt_all kk_X2_refresh := ⟨rfl, rfl, rfl, rfl, rfl⟩
theorem hz_X2_pass : cw_Holds fk_all mt_all cw_Ds cw_sh G (cw_PP G) kk_X2_pass := cw_sound (cw_PPok G) cw_dpok_all (by decide) (M := mt_X2_pass) rfl (cw_kc hz_X1_grow rm_X1_grow (cw_kc hz_X2_refresh rm_X2_refresh (cw_kc hz_X2_see rm_X2_see cw_kn))) ck_X2_pass
theorem rm_X2_pass : cw_rmok mt_all kk_X2_pass := ⟨rfl, rfl, rfl, rfl, rfl⟩
theorem hz_X3_clear : cw_Holds fk_all mt_all cw_Ds cw_sh G (cw_PP G) kk_X3_clear := cw_sound (cw_PPok G) cw_dpok_all (by decide) (M := mt_X3_clear) rfl cw_kn ck_X3_clear
theorem rm_X3_clear : cw_rmok mt_all kk_X3_clear := ⟨rfl, rfl, rfl, rfl, rfl⟩
theorem hz_X3_knownCount : cw_Holds fk_all mt_all cw_Ds cw_sh G (cw_PP G) kk_X3_knownCount := cw_sound (cw_PPok G) cw_dpok_all (by decide) (M := mt_X3_knownCount) rfl cw_kn ck_X3_knownCount
theorem rm_X3_knownCount : cw_rmok mt_all kk_X3_knownCount := ⟨rfl, rfl, rfl, rfl, rfl⟩
theorem hz_X3_findStruck : cw_Holds fk_all mt_all cw_Ds cw_sh G (cw_PP G) kk_X3_findStruck := (hk_X3_findStruck hz_X3_knownCount)
theorem hz_X3_pick : cw_Holds fk_all mt_all cw_Ds cw_sh G (cw_PP G) kk_X3_pick := (hk_X3_pick hz_X3_knownCount hz_X3_findStruck)
theorem rm_X3_pick : cw_rmok mt_all kk_X3_pick := ⟨rfl, rfl, rfl, rfl, rfl⟩
theorem hz_X3_agree : cw_Holds fk_all mt_all cw_Ds cw_sh G (cw_PP G) kk_X3_agree := cw_sound (cw_PPok G) cw_dpok_all (by decide) (M := mt_X3_agree) rfl (cw_kc hz_X1_measured rm_X1_measured cw_kn) ck_X3_agree
theorem rm_X3_agree : cw_rmok mt_all kk_X3_agree := ⟨rfl, rfl, rfl, rfl, rfl⟩
theorem hz_X7_setHeight : cw_Holds fk_all mt_all cw_Ds cw_sh G (cw_PP G) kk_X7_setHeight := cw_sound (cw_PPok G) cw_dpok_all (by decide) (M := mt_X7_setHeight) rfl cw_kn ck_X7_setHeight
theorem rm_X7_setHeight : cw_rmok mt_all kk_X7_setHeight := ⟨rfl, rfl, rfl, rfl, rfl⟩
theorem hz_X7_clear : cw_Holds fk_all mt_all cw_Ds cw_sh G (cw_PP G) kk_X7_clear := cw_sound (cw_PPok G) cw_dpok_all (by decide) (M := mt_X7_clear) rfl (cw_kc hz_X7_setHeight rm_X7_setHeight cw_kn) ck_X7_clear
theorem rm_X7_clear : cw_rmok mt_all kk_X7_clear := ⟨rfl, rfl, rfl, rfl, rfl⟩
theorem hz_X4_clear : cw_Holds fk_all mt_all cw_Ds cw_sh G (cw_PP G) kk_X4_clear := cw_sound (cw_PPok G) cw_dpok_all (by decide) (M := mt_X4_clear) rfl (cw_kc hz_X7_clear rm_X7_clear cw_kn) ck_X4_clear
theorem rm_X4_clear : cw_rmok mt_all kk_X4_clear := ⟨rfl, rfl, rfl, rfl, rfl⟩
theorem hz_X4_isCause : cw_Holds fk_all mt_all cw_Ds cw_sh G (cw_PP G) kk_X4_isCause := cw_sound (cw_PPok G) cw_dpok_all (by decide) (M := mt_X4_isCause) rfl cw_kn ck_X4_isCause
theorem rm_X4_isCause : cw_rmok mt_all kk_X4_isCause := ⟨rfl, rfl, rfl, rfl, rfl⟩
theorem hz_X4_growthNames : cw_Holds fk_all mt_all cw_Ds cw_sh G (cw_PP G) kk_X4_growthNames := cw_sound (cw_PPok G) cw_dpok_all (by decide) (M := mt_X4_growthNames) rfl cw_kn ck_X4_growthNames
theorem rm_X4_growthNames : cw_rmok mt_all kk_X4_growthNames := ⟨rfl, rfl, rfl, rfl, rfl⟩
theorem hz_X4_costOf : cw_Holds fk_all mt_all cw_Ds cw_sh G (cw_PP G) kk_X4_costOf := cw_sound (cw_PPok G) cw_dpok_all (by decide) (M := mt_X4_costOf) rfl cw_kn ck_X4_costOf
theorem rm_X4_costOf : cw_rmok mt_all kk_X4_costOf := ⟨rfl, rfl, rfl, rfl, rfl⟩
theorem hz_X4_weightOf : cw_Holds fk_all mt_all cw_Ds cw_sh G (cw_PP G) kk_X4_weightOf := cw_sound (cw_PPok G) cw_dpok_all (by decide) (M := mt_X4_weightOf) rfl (cw_kc hz_X4_isCause rm_X4_isCause cw_kn) ck_X4_weightOf
theorem rm_X4_weightOf : cw_rmok mt_all kk_X4_weightOf := ⟨rfl, rfl, rfl, rfl, rfl⟩
theorem hz_X6_begin : cw_Holds fk_all mt_all cw_Ds cw_sh G (cw_PP G) kk_X6_begin := cw_sound (cw_PPok G) cw_dpok_all (by decide) (M := mt_X6_begin) rfl (cw_kc hz_X6_step rm_X6_step cw_kn) ck_X6_begin
theorem rm_X6_begin : cw_rmok mt_all kk_X6_begin := ⟨rfl, rfl, rfl, rfl, rfl⟩
theorem hz_X5_fail : cw_Holds fk_all mt_all cw_Ds cw_sh G (cw_PP G) kk_X5_fail := cw_sound (cw_PPok G) cw_dpok_all (by decide) (M := mt_X5_fail) rfl cw_kn ck_X5_fail
theorem rm_X5_fail : cw_rmok mt_all kk_X5_fail := ⟨rfl, rfl, rfl, rfl, rfl⟩
theorem hz_X5_readNumber : cw_Holds fk_all mt_all cw_Ds cw_sh G (cw_PP G) kk_X5_readNumber := cw_sound (cw_PPok G) cw_dpok_all (by decide) (M := mt_X5_readNumber) rfl (cw_kc hz_X5_fail rm_X5_fail (cw_kc hz_X6_step rm_X6_step cw_kn)) ck_X5_readNumber
theorem rm_X5_readNumber : cw_rmok mt_all kk_X5_readNumber := ⟨rfl, rfl, rfl, rfl, rfl⟩
theorem hz_X5_readNumber_1 : cw_Holds fk_all mt_all cw_Ds cw_sh G (cw_PP G) kk_X5_readNumber_1 := cw_sound (cw_PPok G) cw_dpok_all (by decide) (M := mt_X5_readNumber) rfl (cw_kc hz_X5_fail rm_X5_fail (cw_kc hz_X6_step rm_X6_step cw_kn)) ck_X5_readNumber_1
theorem rm_X5_readNumber_1 : cw_rmok mt_all kk_X5_readNumber_1 := ⟨rfl, rfl, rfl, rfl, rfl⟩
theorem hz_X5_readGround : cw_Holds fk_all mt_all cw_Ds cw_sh G (cw_PP G) kk_X5_readGround := cw_sound (cw_PPok G) cw_dpok_all (by decide) (M := mt_X5_readGround) rfl (cw_kc hz_X5_fail rm_X5_fail (cw_kc hz_X5_readNumber_1 rm_X5_readNumber_1 (cw_kc hz_X6_step rm_X6_step cw_kn))) ck_X5_readGround
theorem rm_X5_readGround : cw_rmok mt_all kk_X5_readGround := ⟨rfl, rfl, rfl, rfl, rfl⟩
theorem hz_X6_isWordFrom : cw_Holds fk_all mt_all cw_Ds cw_sh G (cw_PP G) kk_X6_isWordFrom := cw_sound (cw_PPok G) cw_dpok_all (by decide) (M := mt_X6_isWordFrom) rfl cw_kn ck_X6_isWordFrom
theorem rm_X6_isWordFrom : cw_rmok mt_all kk_X6_isWordFrom := ⟨rfl, rfl, rfl, rfl, rfl⟩
theorem hz_X5_readLaw : cw_Holds fk_all mt_all cw_Ds cw_sh G (cw_PP G) kk_X5_readLaw := cw_sound (cw_PPok G) cw_dpok_all (by decide) (M := mt_X5_readLaw) rfl (cw_kc hz_X0_readInto rm_X0_readInto (cw_kc hz_X4_isLaw rm_X4_isLaw (cw_kc hz_X5_fail rm_X5_fail (cw_kc hz_X6_isWordFrom rm_X6_isWordFrom (cw_kc hz_X6_step rm_X6_step cw_kn))))) ck_X5_readLaw
theorem rm_X5_readLaw : cw_rmok mt_all kk_X5_readLaw := ⟨rfl, rfl, rfl, rfl, rfl⟩
theorem hz_X11_placeOf : cw_Holds fk_all mt_all cw_Ds cw_sh G (cw_PP G) kk_X11_placeOf := cw_sound (cw_PPok G) cw_dpok_all (by decide) (M := mt_X11_placeOf) rfl cw_kn ck_X11_placeOf
theorem rm_X11_placeOf : cw_rmok mt_all kk_X11_placeOf := ⟨rfl, rfl, rfl, rfl, rfl⟩
theorem hz_X11_placeOf_1 : cw_Holds fk_all mt_all cw_Ds cw_sh G (cw_PP G) kk_X11_placeOf_1 := cw_sound (cw_PPok G) cw_dpok_all (by decide) (M := mt_X11_placeOf) rfl cw_kn ck_X11_placeOf_1
theorem rm_X11_placeOf_1 : cw_rmok mt_all kk_X11_placeOf_1 := ⟨rfl, rfl, rfl, rfl, rfl⟩
theorem hz_X11_placeOf_2 : cw_Holds fk_all mt_all cw_Ds cw_sh G (cw_PP G) kk_X11_placeOf_2 := cw_sound (cw_PPok G) cw_dpok_all (by decide) (M := mt_X11_placeOf) rfl cw_kn ck_X11_placeOf_2
theorem rm_X11_placeOf_2 : cw_rmok mt_all kk_X11_placeOf_2 := ⟨rfl, rfl, rfl, rfl, rfl⟩
theorem hz_X5_readNewName : cw_Holds fk_all mt_all cw_Ds cw_sh G (cw_PP G) kk_X5_readNewName := cw_sound (cw_PPok G) cw_dpok_all (by decide) (M := mt_X5_readNewName) rfl (cw_kc hz_X11_placeOf rm_X11_placeOf (cw_kc hz_X5_fail rm_X5_fail (cw_kc hz_X6_step rm_X6_step cw_kn))) ck_X5_readNewName
theorem rm_X5_readNewName : cw_rmok mt_all kk_X5_readNewName := ⟨rfl, rfl, rfl, rfl, rfl⟩
theorem hz_X5_readNewName_1 : cw_Holds fk_all mt_all cw_Ds cw_sh G (cw_PP G) kk_X5_readNewName_1 := cw_sound (cw_PPok G) cw_dpok_all (by decide) (M := mt_X5_readNewName) rfl (cw_kc hz_X11_placeOf_1 rm_X11_placeOf_1 (cw_kc hz_X5_fail rm_X5_fail (cw_kc hz_X6_step rm_X6_step cw_kn))) ck_X5_readNewName_1
theorem rm_X5_readNewName_1 : cw_rmok mt_all kk_X5_readNewName_1 := ⟨rfl, rfl, rfl, rfl, rfl⟩
theorem hz_X5_readNewName_2 : cw_Holds fk_all mt_all cw_Ds cw_sh G (cw_PP G) kk_X5_readNewName_2 := cw_sound (cw_PPok G) cw_dpok_all (by decide) (M := mt_X5_readNewName) rfl (cw_kc hz_X11_placeOf_2 rm_X11_placeOf_2 (cw_kc hz_X5_fail rm_X5_fail (cw_kc hz_X6_step rm_X6_step cw_kn))) ck_X5_readNewName_2
theorem rm_X5_readNewName_2 : cw_rmok mt_all kk_X5_readNewName_2 := ⟨rfl, rfl, rfl, rfl, rfl⟩
theorem hz_X5_readBrace : cw_Holds fk_all mt_all cw_Ds cw_sh G (cw_PP G) kk_X5_readBrace := cw_sound (cw_PPok G) cw_dpok_all (by decide) (M := mt_X5_readBrace) rfl (cw_kc hz_X5_fail rm_X5_fail (cw_kc hz_X6_isWordFrom rm_X6_isWordFrom (cw_kc hz_X6_step rm_X6_step cw_kn))) ck_X5_readBrace
theorem rm_X5_readBrace : cw_rmok mt_all kk_X5_readBrace := ⟨rfl, rfl, rfl, rfl, rfl⟩
theorem hz_X5_readHas : cw_Holds fk_all mt_all cw_Ds cw_sh G (cw_PP G) kk_X5_readHas := cw_sound (cw_PPok G) cw_dpok_all (by decide) (M := mt_X5_readHas) rfl (cw_kc hz_X11_placeOf_2 rm_X11_placeOf_2 (cw_kc hz_X5_fail rm_X5_fail (cw_kc hz_X6_step rm_X6_step cw_kn))) ck_X5_readHas
theorem rm_X5_readHas : cw_rmok mt_all kk_X5_readHas := ⟨rfl, rfl, rfl, rfl, rfl⟩
theorem hz_X5_readPart : cw_Holds fk_all mt_all cw_Ds cw_sh G (cw_PP G) kk_X5_readPart := cw_sound (cw_PPok G) cw_dpok_all (by decide) (M := mt_X5_readPart) rfl (cw_kc hz_X5_fail rm_X5_fail (cw_kc hz_X5_readBrace rm_X5_readBrace (cw_kc hz_X5_readHas rm_X5_readHas (cw_kc hz_X5_readNumber rm_X5_readNumber (cw_kc hz_X5_readNumber_1 rm_X5_readNumber_1 (cw_kc hz_X6_step rm_X6_step cw_kn)))))) ck_X5_readPart
theorem rm_X5_readPart : cw_rmok mt_all kk_X5_readPart := ⟨rfl, rfl, rfl, rfl, rfl⟩
theorem hz_X5_readGate : cw_Holds fk_all mt_all cw_Ds cw_sh G (cw_PP G) kk_X5_readGate := cw_sound (cw_PPok G) cw_dpok_all (by decide) (M := mt_X5_readGate) rfl (cw_kc hz_X5_fail rm_X5_fail (cw_kc hz_X5_readNewName rm_X5_readNewName (cw_kc hz_X5_readNumber rm_X5_readNumber (cw_kc hz_X5_readNumber_1 rm_X5_readNumber_1 (cw_kc hz_X5_readPart rm_X5_readPart (cw_kc hz_X6_isWordFrom rm_X6_isWordFrom (cw_kc hz_X6_step rm_X6_step (cw_kc hz_X7_setHeight rm_X7_setHeight cw_kn)))))))) ck_X5_readGate
theorem rm_X5_readGate : cw_rmok mt_all kk_X5_readGate := ⟨rfl, rfl, rfl, rfl, rfl⟩
theorem hz_X5_kindOf : cw_Holds fk_all mt_all cw_Ds cw_sh G (cw_PP G) kk_X5_kindOf := cw_sound (cw_PPok G) cw_dpok_all (by decide) (M := mt_X5_kindOf) rfl cw_kn ck_X5_kindOf
theorem rm_X5_kindOf : cw_rmok mt_all kk_X5_kindOf := ⟨rfl, rfl, rfl, rfl, rfl⟩
theorem hz_X5_mostOf : cw_Holds fk_all mt_all cw_Ds cw_sh G (cw_PP G) kk_X5_mostOf := cw_sound (cw_PPok G) cw_dpok_all (by decide) (M := mt_X5_mostOf) rfl cw_kn ck_X5_mostOf
theorem rm_X5_mostOf : cw_rmok mt_all kk_X5_mostOf := ⟨rfl, rfl, rfl, rfl, rfl⟩
theorem hz_X5_readWork : cw_Holds fk_all mt_all cw_Ds cw_sh G (cw_PP G) kk_X5_readWork := cw_sound (cw_PPok G) cw_dpok_all (by decide) (M := mt_X5_readWork) rfl (cw_kc hz_X5_fail rm_X5_fail (cw_kc hz_X5_kindOf rm_X5_kindOf (cw_kc hz_X5_mostOf rm_X5_mostOf (cw_kc hz_X5_readNewName_1 rm_X5_readNewName_1 (cw_kc hz_X5_readNumber_1 rm_X5_readNumber_1 (cw_kc hz_X6_step rm_X6_step cw_kn)))))) ck_X5_readWork
theorem rm_X5_readWork : cw_rmok mt_all kk_X5_readWork := ⟨rfl, rfl, rfl, rfl, rfl⟩
theorem hz_X5_readCause : cw_Holds fk_all mt_all cw_Ds cw_sh G (cw_PP G) kk_X5_readCause := cw_sound (cw_PPok G) cw_dpok_all (by decide) (M := mt_X5_readCause) rfl (cw_kc hz_X5_fail rm_X5_fail (cw_kc hz_X5_readNewName_2 rm_X5_readNewName_2 (cw_kc hz_X5_readNumber_1 rm_X5_readNumber_1 (cw_kc hz_X6_isWordFrom rm_X6_isWordFrom (cw_kc hz_X6_step rm_X6_step cw_kn))))) ck_X5_readCause
theorem rm_X5_readCause : cw_rmok mt_all kk_X5_readCause := ⟨rfl, rfl, rfl, rfl, rfl⟩
theorem hz_X5_readSemicolon : cw_Holds fk_all mt_all cw_Ds cw_sh G (cw_PP G) kk_X5_readSemicolon := cw_sound (cw_PPok G) cw_dpok_all (by decide) (M := mt_X5_readSemicolon) rfl (cw_kc hz_X5_fail rm_X5_fail (cw_kc hz_X6_step rm_X6_step cw_kn)) ck_X5_readSemicolon
theorem rm_X5_readSemicolon : cw_rmok mt_all kk_X5_readSemicolon := ⟨rfl, rfl, rfl, rfl, rfl⟩
theorem hz_X5_readText : cw_Holds fk_all mt_all cw_Ds cw_sh G (cw_PP G) kk_X5_readText := cw_sound (cw_PPok G) cw_dpok_all (by decide) (M := mt_X5_readText) rfl (cw_kc hz_X4_clear rm_X4_clear (cw_kc hz_X5_fail rm_X5_fail (cw_kc hz_X5_readCause rm_X5_readCause (cw_kc hz_X5_readGate rm_X5_readGate (cw_kc hz_X5_readGround rm_X5_readGround (cw_kc hz_X5_readLaw rm_X5_readLaw (cw_kc hz_X5_readSemicolon rm_X5_readSemicolon (cw_kc hz_X5_readWork rm_X5_readWork (cw_kc hz_X6_begin rm_X6_begin cw_kn))))))))) ck_X5_readText
theorem rm_X5_readText : cw_rmok mt_all kk_X5_readText := ⟨rfl, rfl, rfl, rfl, rfl⟩
theorem hz_X8_record : cw_Holds fk_all mt_all cw_Ds cw_sh G (cw_PP G) kk_X8_record := cw_sound (cw_PPok G) cw_dpok_all (by decide) (M := mt_X8_record) rfl (cw_kc hz_X1_measured rm_X1_measured cw_kn) ck_X8_record
theorem rm_X8_record : cw_rmok mt_all kk_X8_record := ⟨rfl, rfl, rfl, rfl, rfl⟩
theorem hz_X8_judge : cw_Holds fk_all mt_all cw_Ds cw_sh G (cw_PP G) kk_X8_judge := cw_sound (cw_PPok G) cw_dpok_all (by decide) (M := mt_X8_judge) rfl (cw_kc hz_X1_begin rm_X1_begin (cw_kc hz_X1_setCauses rm_X1_setCauses (cw_kc hz_X2_pass rm_X2_pass (cw_kc hz_X3_agree rm_X3_agree (cw_kc hz_X3_pick rm_X3_pick (cw_kc hz_X8_record rm_X8_record cw_kn)))))) ck_X8_judge
theorem rm_X8_judge : cw_rmok mt_all kk_X8_judge := ⟨rfl, rfl, rfl, rfl, rfl⟩
theorem hz_X8_recorded : cw_Holds fk_all mt_all cw_Ds cw_sh G (cw_PP G) kk_X8_recorded := cw_sound (cw_PPok G) cw_dpok_all (by decide) (M := mt_X8_recorded) rfl cw_kn ck_X8_recorded
theorem rm_X8_recorded : cw_rmok mt_all kk_X8_recorded := ⟨rfl, rfl, rfl, rfl, rfl⟩
theorem hz_X8_weightOfFitting : cw_Holds fk_all mt_all cw_Ds cw_sh G (cw_PP G) kk_X8_weightOfFitting := cw_sound (cw_PPok G) cw_dpok_all (by decide) (M := mt_X8_weightOfFitting) rfl (cw_kc hz_X4_weightOf rm_X4_weightOf cw_kn) ck_X8_weightOfFitting
theorem rm_X8_weightOfFitting : cw_rmok mt_all kk_X8_weightOfFitting := ⟨rfl, rfl, rfl, rfl, rfl⟩
theorem hz_X8_heaviestGroup : cw_Holds fk_all mt_all cw_Ds cw_sh G (cw_PP G) kk_X8_heaviestGroup := cw_sound (cw_PPok G) cw_dpok_all (by decide) (M := mt_X8_heaviestGroup) rfl (cw_kc hz_X4_weightOf rm_X4_weightOf (cw_kc hz_X8_recorded rm_X8_recorded cw_kn)) ck_X8_heaviestGroup
theorem rm_X8_heaviestGroup : cw_rmok mt_all kk_X8_heaviestGroup := ⟨rfl, rfl, rfl, rfl, rfl⟩
theorem hz_X9_tell : cw_Holds fk_all mt_all cw_Ds cw_sh G (cw_PP G) kk_X9_tell := cw_sound (cw_PPok G) cw_dpok_all (by decide) (M := mt_X9_tell) rfl cw_kn ck_X9_tell
theorem rm_X9_tell : cw_rmok mt_all kk_X9_tell := ⟨rfl, rfl, rfl, rfl, rfl⟩
theorem hz_X9_sumOf : cw_Holds fk_all mt_all cw_Ds cw_sh G (cw_PP G) kk_X9_sumOf := cw_sound (cw_PPok G) cw_dpok_all (by decide) (M := mt_X9_sumOf) rfl cw_kn ck_X9_sumOf
theorem rm_X9_sumOf : cw_rmok mt_all kk_X9_sumOf := ⟨rfl, rfl, rfl, rfl, rfl⟩
theorem hz_X9_choose : cw_Holds fk_all mt_all cw_Ds cw_sh G (cw_PP G) kk_X9_choose := cw_sound (cw_PPok G) cw_dpok_all (by decide) (M := mt_X9_choose) rfl (cw_kc hz_X9_sumOf rm_X9_sumOf cw_kn) ck_X9_choose
theorem rm_X9_choose : cw_rmok mt_all kk_X9_choose := ⟨rfl, rfl, rfl, rfl, rfl⟩
theorem hz_X9_gateAt : cw_Holds fk_all mt_all cw_Ds cw_sh G (cw_PP G) kk_X9_gateAt := cw_sound (cw_PPok G) cw_dpok_all (by decide) (M := mt_X9_gateAt) rfl cw_kn ck_X9_gateAt
theorem rm_X9_gateAt : cw_rmok mt_all kk_X9_gateAt := ⟨rfl, rfl, rfl, rfl, rfl⟩
theorem hz_X10_clear : cw_Holds fk_all mt_all cw_Ds cw_sh G (cw_PP G) kk_X10_clear := cw_sound (cw_PPok G) cw_dpok_all (by decide) (M := mt_X10_clear) rfl cw_kn ck_X10_clear
theorem rm_X10_clear : cw_rmok mt_all kk_X10_clear := ⟨rfl, rfl, rfl, rfl, rfl⟩
theorem hz_X10_dropEarliest : cw_Holds fk_all mt_all cw_Ds cw_sh G (cw_PP G) kk_X10_dropEarliest := cw_sound (cw_PPok G) cw_dpok_all (by decide) (M := mt_X10_dropEarliest) rfl cw_kn ck_X10_dropEarliest
theorem rm_X10_dropEarliest : cw_rmok mt_all kk_X10_dropEarliest := ⟨rfl, rfl, rfl, rfl, rfl⟩
theorem hz_X10_push : cw_Holds fk_all mt_all cw_Ds cw_sh G (cw_PP G) kk_X10_push := cw_sound (cw_PPok G) cw_dpok_all (by decide) (M := mt_X10_push) rfl (cw_kc hz_X10_dropEarliest rm_X10_dropEarliest (cw_kc hz_X1_copy rm_X1_copy cw_kn)) ck_X10_push
theorem rm_X10_push : cw_rmok mt_all kk_X10_push := ⟨rfl, rfl, rfl, rfl, rfl⟩
theorem hz_X10_latestGate : cw_Holds fk_all mt_all cw_Ds cw_sh G (cw_PP G) kk_X10_latestGate := cw_sound (cw_PPok G) cw_dpok_all (by decide) (M := mt_X10_latestGate) rfl cw_kn ck_X10_latestGate
theorem rm_X10_latestGate : cw_rmok mt_all kk_X10_latestGate := ⟨rfl, rfl, rfl, rfl, rfl⟩
theorem hz_X10_popInto : cw_Holds fk_all mt_all cw_Ds cw_sh G (cw_PP G) kk_X10_popInto := cw_sound (cw_PPok G) cw_dpok_all (by decide) (M := mt_X10_popInto) rfl (cw_kc hz_X1_copy rm_X1_copy cw_kn) ck_X10_popInto
theorem rm_X10_popInto : cw_rmok mt_all kk_X10_popInto := ⟨rfl, rfl, rfl, rfl, rfl⟩
theorem hz_X11_takeSpare : cw_Holds fk_all mt_all cw_Ds cw_sh G (cw_PP G) kk_X11_takeSpare := cw_sound (cw_PPok G) cw_dpok_all (by decide) (M := mt_X11_takeSpare) rfl (cw_kc hz_X10_clear rm_X10_clear (cw_kc hz_X1_begin rm_X1_begin (cw_kc hz_X2_forget rm_X2_forget (cw_kc hz_X3_clear rm_X3_clear cw_kn)))) ck_X11_takeSpare
theorem rm_X11_takeSpare : cw_rmok mt_all kk_X11_takeSpare := ⟨rfl, rfl, rfl, rfl, rfl⟩
theorem hz_X11_text : cw_Holds fk_all mt_all cw_Ds cw_sh G (cw_PP G) kk_X11_text := cw_sound (cw_PPok G) cw_dpok_all (by decide) (M := mt_X11_text) rfl (cw_kc hz_X11_takeSpare rm_X11_takeSpare (cw_kc hz_X5_readText rm_X5_readText cw_kn)) ck_X11_text
theorem hz_X11_fault : cw_Holds fk_all mt_all cw_Ds cw_sh G (cw_PP G) kk_X11_fault := cw_sound (cw_PPok G) cw_dpok_all (by decide) (M := mt_X11_fault) rfl cw_kn ck_X11_fault
theorem hz_X11_named : cw_Holds fk_all mt_all cw_Ds cw_sh G (cw_PP G) kk_X11_named := cw_sound (cw_PPok G) cw_dpok_all (by decide) (M := mt_X11_named) rfl (cw_kc hz_X11_placeOf rm_X11_placeOf (cw_kc hz_X11_placeOf_1 rm_X11_placeOf_1 (cw_kc hz_X11_placeOf_2 rm_X11_placeOf_2 cw_kn))) ck_X11_named
theorem hz_X11_isGate : cw_Holds fk_all mt_all cw_Ds cw_sh G (cw_PP G) kk_X11_isGate := cw_sound (cw_PPok G) cw_dpok_all (by decide) (M := mt_X11_isGate) rfl cw_kn ck_X11_isGate
theorem rm_X11_isGate : cw_rmok mt_all kk_X11_isGate := ⟨rfl, rfl, rfl, rfl, rfl⟩
theorem hz_X11_isBound : cw_Holds fk_all mt_all cw_Ds cw_sh G (cw_PP G) kk_X11_isBound := cw_sound (cw_PPok G) cw_dpok_all (by decide) (M := mt_X11_isBound) rfl cw_kn ck_X11_isBound
theorem rm_X11_isBound : cw_rmok mt_all kk_X11_isBound := ⟨rfl, rfl, rfl, rfl, rfl⟩
theorem hz_X11_isAhead : cw_Holds fk_all mt_all cw_Ds cw_sh G (cw_PP G) kk_X11_isAhead := cw_sound (cw_PPok G) cw_dpok_all (by decide) (M := mt_X11_isAhead) rfl cw_kn ck_X11_isAhead
theorem rm_X11_isAhead : cw_rmok mt_all kk_X11_isAhead := ⟨rfl, rfl, rfl, rfl, rfl⟩
theorem hz_X11_isWeek : cw_Holds fk_all mt_all cw_Ds cw_sh G (cw_PP G) kk_X11_isWeek := cw_sound (cw_PPok G) cw_dpok_all (by decide) (M := mt_X11_isWeek) rfl cw_kn ck_X11_isWeek
theorem rm_X11_isWeek : cw_rmok mt_all kk_X11_isWeek := ⟨rfl, rfl, rfl, rfl, rfl⟩
theorem hz_X11_works : cw_Holds fk_all mt_all cw_Ds cw_sh G (cw_PP G) kk_X11_works := cw_sound (cw_PPok G) cw_dpok_all (by decide) (M := mt_X11_works) rfl (cw_kc hz_X4_isWork rm_X4_isWork cw_kn) ck_X11_works
theorem hz_X11_firm : cw_Holds fk_all mt_all cw_Ds cw_sh G (cw_PP G) kk_X11_firm := cw_sound (cw_PPok G) cw_dpok_all (by decide) (M := mt_X11_firm) rfl (cw_kc hz_X11_isWeek rm_X11_isWeek (cw_kc hz_X4_firmIn rm_X4_firmIn cw_kn)) ck_X11_firm
theorem hz_X11_sags : cw_Holds fk_all mt_all cw_Ds cw_sh G (cw_PP G) kk_X11_sags := cw_sound (cw_PPok G) cw_dpok_all (by decide) (M := mt_X11_sags) rfl (cw_kc hz_X11_isGate rm_X11_isGate (cw_kc hz_X1_drop rm_X1_drop (cw_kc hz_X1_hooksPart rm_X1_hooksPart (cw_kc hz_X1_leanPart rm_X1_leanPart cw_kn)))) ck_X11_sags
theorem hz_X11_latched : cw_Holds fk_all mt_all cw_Ds cw_sh G (cw_PP G) kk_X11_latched := cw_sound (cw_PPok G) cw_dpok_all (by decide) (M := mt_X11_latched) rfl (cw_kc hz_X11_isGate rm_X11_isGate (cw_kc hz_X1_isLatched rm_X1_isLatched cw_kn)) ck_X11_latched
theorem hz_X11_gives : cw_Holds fk_all mt_all cw_Ds cw_sh G (cw_PP G) kk_X11_gives := cw_sound (cw_PPok G) cw_dpok_all (by decide) (M := mt_X11_gives) rfl (cw_kc hz_X11_isGate rm_X11_isGate (cw_kc hz_X1_hooksPart rm_X1_hooksPart (cw_kc hz_X1_leanPart rm_X1_leanPart cw_kn))) ck_X11_gives
theorem hz_X11_work : cw_Holds fk_all mt_all cw_Ds cw_sh G (cw_PP G) kk_X11_work := cw_sound (cw_PPok G) cw_dpok_all (by decide) (M := mt_X11_work) rfl (cw_kc hz_X10_push rm_X10_push (cw_kc hz_X11_isGate rm_X11_isGate (cw_kc hz_X1_take rm_X1_take (cw_kc hz_X4_isWork rm_X4_isWork cw_kn)))) ck_X11_work
theorem hz_X11_undo : cw_Holds fk_all mt_all cw_Ds cw_sh G (cw_PP G) kk_X11_undo := cw_sound (cw_PPok G) cw_dpok_all (by decide) (M := mt_X11_undo) rfl (cw_kc hz_X10_latestGate rm_X10_latestGate (cw_kc hz_X10_popInto rm_X10_popInto (cw_kc hz_X11_isGate rm_X11_isGate cw_kn))) ck_X11_undo
theorem hz_X11_lasts : cw_Holds fk_all mt_all cw_Ds cw_sh G (cw_PP G) kk_X11_lasts := cw_sound (cw_PPok G) cw_dpok_all (by decide) (M := mt_X11_lasts) rfl (cw_kc hz_X11_isBound rm_X11_isBound (cw_kc hz_X11_isGate rm_X11_isGate (cw_kc hz_X1_copy rm_X1_copy (cw_kc hz_X1_drop rm_X1_drop (cw_kc hz_X2_pass rm_X2_pass cw_kn))))) ck_X11_lasts
theorem hz_X11_holds : cw_Holds fk_all mt_all cw_Ds cw_sh G (cw_PP G) kk_X11_holds := cw_sound (cw_PPok G) cw_dpok_all (by decide) (M := mt_X11_holds) rfl (cw_kc hz_X1_copy rm_X1_copy (cw_kc hz_X1_drop rm_X1_drop (cw_kc hz_X1_take rm_X1_take (cw_kc hz_X2_pass rm_X2_pass cw_kn)))) ck_X11_holds
theorem rm_X11_holds : cw_rmok mt_all kk_X11_holds := ⟨rfl, rfl, rfl, rfl, rfl⟩
theorem hz_X11_least : cw_Holds fk_all mt_all cw_Ds cw_sh G (cw_PP G) kk_X11_least := cw_sound (cw_PPok G) cw_dpok_all (by decide) (M := mt_X11_least) rfl (cw_kc hz_X11_holds rm_X11_holds (cw_kc hz_X11_isAhead rm_X11_isAhead (cw_kc hz_X11_isBound rm_X11_isBound (cw_kc hz_X11_isGate rm_X11_isGate (cw_kc hz_X4_costOf rm_X4_costOf cw_kn))))) ck_X11_least
theorem hz_X11_dropWithBrace : cw_Holds fk_all mt_all cw_Ds cw_sh G (cw_PP G) kk_X11_dropWithBrace := cw_sound (cw_PPok G) cw_dpok_all (by decide) (M := mt_X11_dropWithBrace) rfl (cw_kc hz_X1_copy rm_X1_copy (cw_kc hz_X1_drop rm_X1_drop (cw_kc hz_X2_pass rm_X2_pass cw_kn))) ck_X11_dropWithBrace
theorem rm_X11_dropWithBrace : cw_rmok mt_all kk_X11_dropWithBrace := ⟨rfl, rfl, rfl, rfl, rfl⟩
theorem hz_X11_way : cw_Holds fk_all mt_all cw_Ds cw_sh G (cw_PP G) kk_X11_way := cw_sound (cw_PPok G) cw_dpok_all (by decide) (M := mt_X11_way) rfl (cw_kc hz_X11_dropWithBrace rm_X11_dropWithBrace (cw_kc hz_X11_isAhead rm_X11_isAhead (cw_kc hz_X11_isGate rm_X11_isGate cw_kn))) ck_X11_way
theorem hz_X11_enough : cw_Holds fk_all mt_all cw_Ds cw_sh G (cw_PP G) kk_X11_enough := cw_sound (cw_PPok G) cw_dpok_all (by decide) (M := mt_X11_enough) rfl (cw_kc hz_X11_isAhead rm_X11_isAhead (cw_kc hz_X11_isBound rm_X11_isBound (cw_kc hz_X11_isGate rm_X11_isGate (cw_kc hz_X1_copy rm_X1_copy (cw_kc hz_X2_pass rm_X2_pass (cw_kc hz_X4_growthNames rm_X4_growthNames cw_kn)))))) ck_X11_enough
theorem hz_X11_bears : cw_Holds fk_all mt_all cw_Ds cw_sh G (cw_PP G) kk_X11_bears := cw_sound (cw_PPok G) cw_dpok_all (by decide) (M := mt_X11_bears) rfl (cw_kc hz_X11_isAhead rm_X11_isAhead (cw_kc hz_X11_isBound rm_X11_isBound (cw_kc hz_X11_isGate rm_X11_isGate (cw_kc hz_X1_copy rm_X1_copy (cw_kc hz_X1_drop rm_X1_drop (cw_kc hz_X1_pull rm_X1_pull (cw_kc hz_X2_pass rm_X2_pass (cw_kc hz_X4_growthNames rm_X4_growthNames cw_kn)))))))) ck_X11_bears
theorem hz_X11_knock : cw_Holds fk_all mt_all cw_Ds cw_sh G (cw_PP G) kk_X11_knock := cw_sound (cw_PPok G) cw_dpok_all (by decide) (M := mt_X11_knock) rfl (cw_kc hz_X11_isGate rm_X11_isGate (cw_kc hz_X2_see rm_X2_see (cw_kc hz_X2_workOut rm_X2_workOut (cw_kc hz_X4_isLaw rm_X4_isLaw cw_kn)))) ck_X11_knock
theorem hz_X11_known : cw_Holds fk_all mt_all cw_Ds cw_sh G (cw_PP G) kk_X11_known := cw_sound (cw_PPok G) cw_dpok_all (by decide) (M := mt_X11_known) rfl cw_kn ck_X11_known
theorem hz_X11_fits : cw_Holds fk_all mt_all cw_Ds cw_sh G (cw_PP G) kk_X11_fits := cw_sound (cw_PPok G) cw_dpok_all (by decide) (M := mt_X11_fits) rfl (cw_kc hz_X11_isGate rm_X11_isGate (cw_kc hz_X8_judge rm_X8_judge cw_kn)) ck_X11_fits
theorem hz_X11_odds : cw_Holds fk_all mt_all cw_Ds cw_sh G (cw_PP G) kk_X11_odds := cw_sound (cw_PPok G) cw_dpok_all (by decide) (M := mt_X11_odds) rfl (cw_kc hz_X11_isGate rm_X11_isGate (cw_kc hz_X4_weightOf rm_X4_weightOf (cw_kc hz_X8_judge rm_X8_judge (cw_kc hz_X8_weightOfFitting rm_X8_weightOfFitting cw_kn)))) ck_X11_odds
theorem hz_J6_bitCount_0f7a4 : cw_Holds fk_all mt_all cw_Ds cw_sh G (cw_PP G) kk_J6_bitCount_0f7a4 := cw_sound (cw_PPok G) cw_dpok_all (by decide) (M := mt_J6_bitCount_0f7a4) rfl cw_kn ck_J6_bitCount_0f7a4
theorem rm_J6_bitCount_0f7a4 : cw_rmok mt_all kk_J6_bitCount_0f7a4 := ⟨rfl, rfl, rfl, rfl, rfl⟩
theorem hz_X11_test : cw_Holds fk_all mt_all cw_Ds cw_sh G (cw_PP G) kk_X11_test := cw_sound (cw_PPok G) cw_dpok_all (by decide) (M := mt_X11_test) rfl (cw_kc hz_J6_bitCount_0f7a4 rm_J6_bitCount_0f7a4 (cw_kc hz_X11_isGate rm_X11_isGate (cw_kc hz_X8_heaviestGroup rm_X8_heaviestGroup (cw_kc hz_X8_judge rm_X8_judge cw_kn)))) ck_X11_test
theorem hz_X11_low : cw_Holds fk_all mt_all cw_Ds cw_sh G (cw_PP G) kk_X11_low := cw_sound (cw_PPok G) cw_dpok_all (by decide) (M := mt_X11_low) rfl (cw_kc hz_X11_isAngle rm_X11_isAngle (cw_kc hz_X11_isGate rm_X11_isGate (cw_kc hz_X1_lowHung rm_X1_lowHung cw_kn))) ck_X11_low
theorem hz_X11_rest : cw_Holds fk_all mt_all cw_Ds cw_sh G (cw_PP G) kk_X11_rest := cw_sound (cw_PPok G) cw_dpok_all (by decide) (M := mt_X11_rest) rfl (cw_kc hz_X11_isGate rm_X11_isGate (cw_kc hz_X1_lowHung rm_X1_lowHung cw_kn)) ck_X11_rest
theorem hz_X11_shuts : cw_Holds fk_all mt_all cw_Ds cw_sh G (cw_PP G) kk_X11_shuts := cw_sound (cw_PPok G) cw_dpok_all (by decide) (M := mt_X11_shuts) rfl (cw_kc hz_X11_isGate rm_X11_isGate (cw_kc hz_X1_lowHung rm_X1_lowHung cw_kn)) ck_X11_shuts
theorem hz_X11_above : cw_Holds fk_all mt_all cw_Ds cw_sh G (cw_PP G) kk_X11_above := cw_sound (cw_PPok G) cw_dpok_all (by decide) (M := mt_X11_above) rfl (cw_kc hz_X11_isAngle rm_X11_isAngle (cw_kc hz_X11_isGate rm_X11_isGate (cw_kc hz_X1_aboveHung rm_X1_aboveHung cw_kn))) ck_X11_above
theorem hz_X11_opens : cw_Holds fk_all mt_all cw_Ds cw_sh G (cw_PP G) kk_X11_opens := cw_sound (cw_PPok G) cw_dpok_all (by decide) (M := mt_X11_opens) rfl (cw_kc hz_X11_isGate rm_X11_isGate (cw_kc hz_X1_aboveHung rm_X1_aboveHung cw_kn)) ck_X11_opens
theorem hz_X11_stand : cw_Holds fk_all mt_all cw_Ds cw_sh G (cw_PP G) kk_X11_stand := cw_sound (cw_PPok G) cw_dpok_all (by decide) (M := mt_X11_stand) rfl (cw_kc hz_X11_isAngle rm_X11_isAngle (cw_kc hz_X11_isGate rm_X11_isGate (cw_kc hz_X1_copy rm_X1_copy (cw_kc hz_X1_standsWith rm_X1_standsWith cw_kn)))) ck_X11_stand
theorem hz_X11_unlatchedWeeks : cw_Holds fk_all mt_all cw_Ds cw_sh G (cw_PP G) kk_X11_unlatchedWeeks := cw_sound (cw_PPok G) cw_dpok_all (by decide) (M := mt_X11_unlatchedWeeks) rfl (cw_kc hz_X11_isGate rm_X11_isGate (cw_kc hz_X1_copy rm_X1_copy (cw_kc hz_X1_drop rm_X1_drop (cw_kc hz_X1_isLatched rm_X1_isLatched (cw_kc hz_X2_pass rm_X2_pass cw_kn))))) ck_X11_unlatchedWeeks
theorem rm_X11_unlatchedWeeks : cw_rmok mt_all kk_X11_unlatchedWeeks := ⟨rfl, rfl, rfl, rfl, rfl⟩
theorem hz_X11_first : cw_Holds fk_all mt_all cw_Ds cw_sh G (cw_PP G) kk_X11_first := cw_sound (cw_PPok G) cw_dpok_all (by decide) (M := mt_X11_first) rfl (cw_kc hz_X11_unlatchedWeeks rm_X11_unlatchedWeeks (cw_kc hz_X9_choose rm_X9_choose (cw_kc hz_X9_gateAt rm_X9_gateAt (cw_kc hz_X9_tell rm_X9_tell cw_kn)))) ck_X11_first
theorem hz_X11_wind : cw_Holds fk_all mt_all cw_Ds cw_sh G (cw_PP G) kk_X11_wind := cw_sound (cw_PPok G) cw_dpok_all (by decide) (M := mt_X11_wind) rfl (cw_kc hz_X11_isBound rm_X11_isBound (cw_kc hz_X11_isGate rm_X11_isGate (cw_kc hz_X1_copy rm_X1_copy (cw_kc hz_X1_drop rm_X1_drop (cw_kc hz_X2_pass rm_X2_pass cw_kn))))) ck_X11_wind
theorem hz_X11_keep : cw_Holds fk_all mt_all cw_Ds cw_sh G (cw_PP G) kk_X11_keep := cw_sound (cw_PPok G) cw_dpok_all (by decide) (M := mt_X11_keep) rfl (cw_kc hz_X1_copy rm_X1_copy cw_kn) ck_X11_keep
theorem hz_X11_back : cw_Holds fk_all mt_all cw_Ds cw_sh G (cw_PP G) kk_X11_back := cw_sound (cw_PPok G) cw_dpok_all (by decide) (M := mt_X11_back) rfl (cw_kc hz_X10_clear rm_X10_clear (cw_kc hz_X1_copy rm_X1_copy cw_kn)) ck_X11_back
theorem hz_X11_costOfAllDone : cw_Holds fk_all mt_all cw_Ds cw_sh G (cw_PP G) kk_X11_costOfAllDone := cw_sound (cw_PPok G) cw_dpok_all (by decide) (M := mt_X11_costOfAllDone) rfl (cw_kc hz_X4_costOf rm_X4_costOf cw_kn) ck_X11_costOfAllDone
theorem rm_X11_costOfAllDone : cw_rmok mt_all kk_X11_costOfAllDone := ⟨rfl, rfl, rfl, rfl, rfl⟩
theorem hz_X11_count : cw_Holds fk_all mt_all cw_Ds cw_sh G (cw_PP G) kk_X11_count := cw_sound (cw_PPok G) cw_dpok_all (by decide) (M := mt_X11_count) rfl (cw_kc hz_X11_costOfAllDone rm_X11_costOfAllDone (cw_kc hz_X3_knownCount rm_X3_knownCount cw_kn)) ck_X11_count
theorem hz_X12_isIn : cw_Holds fk_all mt_all cw_Ds cw_sh G (cw_PP G) kk_X12_isIn := (hk_X12_isIn (cw_PP G))
theorem rm_X12_isIn : cw_rmok mt_all kk_X12_isIn := ⟨rfl, rfl, rfl, rfl, rfl⟩
theorem hz_X12_isOf : cw_Holds fk_all mt_all cw_Ds cw_sh G (cw_PP G) kk_X12_isOf := cw_sound (cw_PPok G) cw_dpok_all (by decide) (M := mt_X12_isOf) rfl cw_kn ck_X12_isOf
theorem rm_X12_isOf : cw_rmok mt_all kk_X12_isOf := ⟨rfl, rfl, rfl, rfl, rfl⟩
theorem hz_X12_sizeOf : cw_Holds fk_all mt_all cw_Ds cw_sh G (cw_PP G) kk_X12_sizeOf := cw_sound (cw_PPok G) cw_dpok_all (by decide) (M := mt_X12_sizeOf) rfl cw_kn ck_X12_sizeOf
theorem rm_X12_sizeOf : cw_rmok mt_all kk_X12_sizeOf := ⟨rfl, rfl, rfl, rfl, rfl⟩
theorem rm_X12_wrong : cw_rmok mt_all kk_X12_wrong := ⟨rfl, rfl, rfl, rfl, rfl⟩
theorem hz_X12_packed : cw_Holds fk_all mt_all cw_Ds cw_sh G (cw_PP G) kk_X12_packed := cw_sound (cw_PPok G) cw_dpok_all (by decide) (M := mt_X12_packed) rfl cw_kn ck_X12_packed
theorem rm_X12_token : cw_rmok mt_all kk_X12_token := ⟨rfl, rfl, rfl, rfl, rfl⟩
theorem rm_X12_isSign : cw_rmok mt_all kk_X12_isSign := ⟨rfl, rfl, rfl, rfl, rfl⟩
theorem rm_X12_number : cw_rmok mt_all kk_X12_number := ⟨rfl, rfl, rfl, rfl, rfl⟩
theorem rm_X12_numbers : cw_rmok mt_all kk_X12_numbers := ⟨rfl, rfl, rfl, rfl, rfl⟩
theorem hz_X12_find : cw_Holds fk_all mt_all cw_Ds cw_sh G (cw_PP G) kk_X12_find := cw_sound (cw_PPok G) cw_dpok_all (by decide) (M := mt_X12_find) rfl cw_kn ck_X12_find
theorem rm_X12_find : cw_rmok mt_all kk_X12_find := ⟨rfl, rfl, rfl, rfl, rfl⟩
theorem hz_X12_find_1 : cw_Holds fk_all mt_all cw_Ds cw_sh G (cw_PP G) kk_X12_find_1 := cw_sound (cw_PPok G) cw_dpok_all (by decide) (M := mt_X12_find) rfl cw_kn ck_X12_find_1
theorem rm_X12_find_1 : cw_rmok mt_all kk_X12_find_1 := ⟨rfl, rfl, rfl, rfl, rfl⟩
theorem hz_X12_find_2 : cw_Holds fk_all mt_all cw_Ds cw_sh G (cw_PP G) kk_X12_find_2 := cw_sound (cw_PPok G) cw_dpok_all (by decide) (M := mt_X12_find) rfl cw_kn ck_X12_find_2
theorem rm_X12_find_2 : cw_rmok mt_all kk_X12_find_2 := ⟨rfl, rfl, rfl, rfl, rfl⟩
theorem rm_X12_newName_1 : cw_rmok mt_all kk_X12_newName_1 := ⟨rfl, rfl, rfl, rfl, rfl⟩
theorem rm_X12_workWord : cw_rmok mt_all kk_X12_workWord := ⟨rfl, rfl, rfl, rfl, rfl⟩
theorem rm_X12_mostOf : cw_rmok mt_all kk_X12_mostOf := ⟨rfl, rfl, rfl, rfl, rfl⟩
theorem hz_X12_fault : cw_Holds fk_all mt_all cw_Ds cw_sh G (cw_PP G) kk_X12_fault := cw_sound (cw_PPok G) cw_dpok_all (by decide) (M := mt_X12_fault) rfl cw_kn ck_X12_fault
theorem hz_X12_named : cw_Holds fk_all mt_all cw_Ds cw_sh G (cw_PP G) kk_X12_named := cw_sound (cw_PPok G) cw_dpok_all (by decide) (M := mt_X12_named) rfl (cw_kc hz_X12_find rm_X12_find (cw_kc hz_X12_find_1 rm_X12_find_1 (cw_kc hz_X12_find_2 rm_X12_find_2 cw_kn))) ck_X12_named
theorem hz_X12_lays : cw_Holds fk_all mt_all cw_Ds cw_sh G (cw_PP G) kk_X12_lays := cw_sound (cw_PPok G) cw_dpok_all (by decide) (M := mt_X12_lays) rfl cw_kn ck_X12_lays
theorem rm_X12_lays : cw_rmok mt_all kk_X12_lays := ⟨rfl, rfl, rfl, rfl, rfl⟩
theorem hz_X12_lays_1 : cw_Holds fk_all mt_all cw_Ds cw_sh G (cw_PP G) kk_X12_lays_1 := cw_sound (cw_PPok G) cw_dpok_all (by decide) (M := mt_X12_lays) rfl cw_kn ck_X12_lays_1
theorem hz_X12_lays_2 : cw_Holds fk_all mt_all cw_Ds cw_sh G (cw_PP G) kk_X12_lays_2 := cw_sound (cw_PPok G) cw_dpok_all (by decide) (M := mt_X12_lays) rfl cw_kn ck_X12_lays_2
theorem rm_X12_lays_2 : cw_rmok mt_all kk_X12_lays_2 := ⟨rfl, rfl, rfl, rfl, rfl⟩
theorem hz_X12_lays_3 : cw_Holds fk_all mt_all cw_Ds cw_sh G (cw_PP G) kk_X12_lays_3 := cw_sound (cw_PPok G) cw_dpok_all (by decide) (M := mt_X12_lays) rfl cw_kn ck_X12_lays_3
theorem rm_X12_lays_3 : cw_rmok mt_all kk_X12_lays_3 := ⟨rfl, rfl, rfl, rfl, rfl⟩
theorem hz_X12_lays_4 : cw_Holds fk_all mt_all cw_Ds cw_sh G (cw_PP G) kk_X12_lays_4 := cw_sound (cw_PPok G) cw_dpok_all (by decide) (M := mt_X12_lays) rfl cw_kn ck_X12_lays_4
theorem rm_X12_lays_4 : cw_rmok mt_all kk_X12_lays_4 := ⟨rfl, rfl, rfl, rfl, rfl⟩
theorem hz_X12_lays_5 : cw_Holds fk_all mt_all cw_Ds cw_sh G (cw_PP G) kk_X12_lays_5 := cw_sound (cw_PPok G) cw_dpok_all (by decide) (M := mt_X12_lays) rfl cw_kn ck_X12_lays_5
theorem hz_X12_lays_6 : cw_Holds fk_all mt_all cw_Ds cw_sh G (cw_PP G) kk_X12_lays_6 := cw_sound (cw_PPok G) cw_dpok_all (by decide) (M := mt_X12_lays) rfl cw_kn ck_X12_lays_6
theorem rm_X12_lays_6 : cw_rmok mt_all kk_X12_lays_6 := ⟨rfl, rfl, rfl, rfl, rfl⟩
theorem hz_X12_lays_7 : cw_Holds fk_all mt_all cw_Ds cw_sh G (cw_PP G) kk_X12_lays_7 := cw_sound (cw_PPok G) cw_dpok_all (by decide) (M := mt_X12_lays) rfl cw_kn ck_X12_lays_7
theorem rm_X12_lays_7 : cw_rmok mt_all kk_X12_lays_7 := ⟨rfl, rfl, rfl, rfl, rfl⟩
theorem hz_X12_begins : cw_Holds fk_all mt_all cw_Ds cw_sh G (cw_PP G) kk_X12_begins := cw_sound (cw_PPok G) cw_dpok_all (by decide) (M := mt_X12_begins) rfl cw_kn ck_X12_begins
theorem rm_X12_begins : cw_rmok mt_all kk_X12_begins := ⟨rfl, rfl, rfl, rfl, rfl⟩
theorem hz_X12_loads : cw_Holds fk_all mt_all cw_Ds cw_sh G (cw_PP G) kk_X12_loads := cw_sound (cw_PPok G) cw_dpok_all (by decide) (M := mt_X12_loads) rfl (cw_kc hz_X12_lays rm_X12_lays cw_kn) ck_X12_loads
theorem rm_X12_loads : cw_rmok mt_all kk_X12_loads := ⟨rfl, rfl, rfl, rfl, rfl⟩
theorem hz_X12_spanOf : cw_Holds fk_all mt_all cw_Ds cw_sh G (cw_PP G) kk_X12_spanOf := hk_X12_spanOf
theorem rm_X12_spanOf : cw_rmok mt_all kk_X12_spanOf := ⟨rfl, rfl, rfl, rfl, rfl⟩
theorem hz_X12_pullOf : cw_Holds fk_all mt_all cw_Ds cw_sh G (cw_PP G) kk_X12_pullOf := cw_sound (cw_PPok G) cw_dpok_all (by decide) (M := mt_X12_pullOf) rfl (cw_kc hz_X12_spanOf rm_X12_spanOf cw_kn) ck_X12_pullOf
theorem rm_X12_pullOf : cw_rmok mt_all kk_X12_pullOf := ⟨rfl, rfl, rfl, rfl, rfl⟩
theorem hz_X12_partOf : cw_Holds fk_all mt_all cw_Ds cw_sh G (cw_PP G) kk_X12_partOf := hk_X12_partOf
theorem rm_X12_partOf : cw_rmok mt_all kk_X12_partOf := ⟨rfl, rfl, rfl, rfl, rfl⟩
theorem hz_X12_dropOf : cw_Holds fk_all mt_all cw_Ds cw_sh G (cw_PP G) kk_X12_dropOf := cw_sound (cw_PPok G) cw_dpok_all (by decide) (M := mt_X12_dropOf) rfl (cw_kc hz_X12_partOf rm_X12_partOf cw_kn) ck_X12_dropOf
theorem rm_X12_dropOf : cw_rmok mt_all kk_X12_dropOf := ⟨rfl, rfl, rfl, rfl, rfl⟩
theorem hz_X12_firmOf : cw_Holds fk_all mt_all cw_Ds cw_sh G (cw_PP G) kk_X12_firmOf := cw_sound (cw_PPok G) cw_dpok_all (by decide) (M := mt_X12_firmOf) rfl cw_kn ck_X12_firmOf
theorem rm_X12_firmOf : cw_rmok mt_all kk_X12_firmOf := ⟨rfl, rfl, rfl, rfl, rfl⟩
theorem hz_X12_bounded : cw_Holds fk_all mt_all cw_Ds cw_sh G (cw_PP G) kk_X12_bounded := cw_sound (cw_PPok G) cw_dpok_all (by decide) (M := mt_X12_bounded) rfl cw_kn ck_X12_bounded
theorem hz_X12_compares : cw_Holds fk_all mt_all cw_Ds cw_sh G (cw_PP G) kk_X12_compares := cw_sound (cw_PPok G) cw_dpok_all (by decide) (M := mt_X12_compares) rfl cw_kn ck_X12_compares
theorem hz_X12_times : cw_Holds fk_all mt_all cw_Ds cw_sh G (cw_PP G) kk_X12_times := cw_sound (cw_PPok G) cw_dpok_all (by decide) (M := mt_X12_times) rfl cw_kn ck_X12_times
theorem hz_X12_valueOf : cw_Holds fk_all mt_all cw_Ds cw_sh G (cw_PP G) kk_X12_valueOf := (hk_X12_valueOf hz_X12_bounded hz_X12_times hz_X12_compares)
theorem hz_X12_layNames : cw_Holds fk_all mt_all cw_Ds cw_sh G (cw_PP G) kk_X12_layNames := cw_sound (cw_PPok G) cw_dpok_all (by decide) (M := mt_X12_layNames) rfl (cw_kc hz_X12_dropOf rm_X12_dropOf (cw_kc hz_X12_firmOf rm_X12_firmOf (cw_kc hz_X12_pullOf rm_X12_pullOf cw_kn))) ck_X12_layNames
theorem rm_X12_layNames : cw_rmok mt_all kk_X12_layNames := ⟨rfl, rfl, rfl, rfl, rfl⟩
theorem hz_X12_lawOf : cw_Holds fk_all mt_all cw_Ds cw_sh G (cw_PP G) kk_X12_lawOf := (hk_X12_lawOf hz_X12_valueOf)
theorem rm_X12_lawOf : cw_rmok mt_all kk_X12_lawOf := ⟨rfl, rfl, rfl, rfl, rfl⟩
theorem hz_X12_goes : cw_Holds fk_all mt_all cw_Ds cw_sh G (cw_PP G) kk_X12_goes := cw_sound (cw_PPok G) cw_dpok_all (by decide) (M := mt_X12_goes) rfl (cw_kc hz_X12_isOf rm_X12_isOf (cw_kc hz_X12_lawOf rm_X12_lawOf (cw_kc hz_X12_layNames rm_X12_layNames cw_kn))) ck_X12_goes
theorem rm_X12_goes : cw_rmok mt_all kk_X12_goes := ⟨rfl, rfl, rfl, rfl, rfl⟩
theorem hz_X12_goesOn : cw_Holds fk_all mt_all cw_Ds cw_sh G (cw_PP G) kk_X12_goesOn := cw_sound (cw_PPok G) cw_dpok_all (by decide) (M := mt_X12_goesOn) rfl (cw_kc hz_X12_goes rm_X12_goes cw_kn) ck_X12_goesOn
theorem rm_X12_goesOn : cw_rmok mt_all kk_X12_goesOn := ⟨rfl, rfl, rfl, rfl, rfl⟩
theorem hz_X12_isGate : cw_Holds fk_all mt_all cw_Ds cw_sh G (cw_PP G) kk_X12_isGate := cw_sound (cw_PPok G) cw_dpok_all (by decide) (M := mt_X12_isGate) rfl cw_kn ck_X12_isGate
theorem rm_X12_isGate : cw_rmok mt_all kk_X12_isGate := ⟨rfl, rfl, rfl, rfl, rfl⟩
theorem hz_X12_fails : cw_Holds fk_all mt_all cw_Ds cw_sh G (cw_PP G) kk_X12_fails := cw_sound (cw_PPok G) cw_dpok_all (by decide) (M := mt_X12_fails) rfl cw_kn ck_X12_fails
theorem rm_X12_fails : cw_rmok mt_all kk_X12_fails := ⟨rfl, rfl, rfl, rfl, rfl⟩
theorem hz_X12_look : cw_Holds fk_all mt_all cw_Ds cw_sh G (cw_PP G) kk_X12_look := cw_sound (cw_PPok G) cw_dpok_all (by decide) (M := mt_X12_look) rfl (cw_kc hz_X12_fails rm_X12_fails (cw_kc hz_X12_isGate rm_X12_isGate (cw_kc hz_X12_loads rm_X12_loads (cw_kc hz_X12_pullOf rm_X12_pullOf (cw_kc hz_X12_spanOf rm_X12_spanOf cw_kn))))) ck_X12_look
theorem hz_X12_works : cw_Holds fk_all mt_all cw_Ds cw_sh G (cw_PP G) kk_X12_works := cw_sound (cw_PPok G) cw_dpok_all (by decide) (M := mt_X12_works) rfl (cw_kc hz_X12_isIn rm_X12_isIn cw_kn) ck_X12_works
theorem hz_X12_firm : cw_Holds fk_all mt_all cw_Ds cw_sh G (cw_PP G) kk_X12_firm := cw_sound (cw_PPok G) cw_dpok_all (by decide) (M := mt_X12_firm) rfl (cw_kc hz_X12_firmOf rm_X12_firmOf (cw_kc hz_X12_isIn rm_X12_isIn cw_kn)) ck_X12_firm
theorem hz_X12_sags : cw_Holds fk_all mt_all cw_Ds cw_sh G (cw_PP G) kk_X12_sags := cw_sound (cw_PPok G) cw_dpok_all (by decide) (M := mt_X12_sags) rfl (cw_kc hz_X12_dropOf rm_X12_dropOf (cw_kc hz_X12_isGate rm_X12_isGate (cw_kc hz_X12_isIn rm_X12_isIn (cw_kc hz_X12_loads rm_X12_loads (cw_kc hz_X12_partOf rm_X12_partOf cw_kn))))) ck_X12_sags
theorem hz_X12_isLatched : cw_Holds fk_all mt_all cw_Ds cw_sh G (cw_PP G) kk_X12_isLatched := cw_sound (cw_PPok G) cw_dpok_all (by decide) (M := mt_X12_isLatched) rfl (cw_kc hz_X12_dropOf rm_X12_dropOf cw_kn) ck_X12_isLatched
theorem rm_X12_isLatched : cw_rmok mt_all kk_X12_isLatched := ⟨rfl, rfl, rfl, rfl, rfl⟩
theorem hz_X12_latched : cw_Holds fk_all mt_all cw_Ds cw_sh G (cw_PP G) kk_X12_latched := cw_sound (cw_PPok G) cw_dpok_all (by decide) (M := mt_X12_latched) rfl (cw_kc hz_X12_isGate rm_X12_isGate (cw_kc hz_X12_isLatched rm_X12_isLatched (cw_kc hz_X12_loads rm_X12_loads cw_kn))) ck_X12_latched
theorem hz_X12_gives : cw_Holds fk_all mt_all cw_Ds cw_sh G (cw_PP G) kk_X12_gives := cw_sound (cw_PPok G) cw_dpok_all (by decide) (M := mt_X12_gives) rfl (cw_kc hz_X12_isGate rm_X12_isGate (cw_kc hz_X12_loads rm_X12_loads (cw_kc hz_X12_partOf rm_X12_partOf cw_kn))) ck_X12_gives
theorem hz_X12_does : cw_Holds fk_all mt_all cw_Ds cw_sh G (cw_PP G) kk_X12_does := cw_sound (cw_PPok G) cw_dpok_all (by decide) (M := mt_X12_does) rfl cw_kn ck_X12_does
theorem rm_X12_does : cw_rmok mt_all kk_X12_does := ⟨rfl, rfl, rfl, rfl, rfl⟩
theorem hz_X12_undo : cw_Holds fk_all mt_all cw_Ds cw_sh G (cw_PP G) kk_X12_undo := cw_sound (cw_PPok G) cw_dpok_all (by decide) (M := mt_X12_undo) rfl (cw_kc hz_X12_lays_2 rm_X12_lays_2 cw_kn) ck_X12_undo
theorem hz_X12_isBound : cw_Holds fk_all mt_all cw_Ds cw_sh G (cw_PP G) kk_X12_isBound := cw_sound (cw_PPok G) cw_dpok_all (by decide) (M := mt_X12_isBound) rfl (cw_kc hz_X12_isIn rm_X12_isIn cw_kn) ck_X12_isBound
theorem rm_X12_isBound : cw_rmok mt_all kk_X12_isBound := ⟨rfl, rfl, rfl, rfl, rfl⟩
theorem hz_X12_lasts : cw_Holds fk_all mt_all cw_Ds cw_sh G (cw_PP G) kk_X12_lasts := cw_sound (cw_PPok G) cw_dpok_all (by decide) (M := mt_X12_lasts) rfl (cw_kc hz_X12_dropOf rm_X12_dropOf (cw_kc hz_X12_goes rm_X12_goes (cw_kc hz_X12_isBound rm_X12_isBound (cw_kc hz_X12_isGate rm_X12_isGate (cw_kc hz_X12_loads rm_X12_loads cw_kn))))) ck_X12_lasts
theorem hz_X12_costOf : cw_Holds fk_all mt_all cw_Ds cw_sh G (cw_PP G) kk_X12_costOf := cw_sound (cw_PPok G) cw_dpok_all (by decide) (M := mt_X12_costOf) rfl (cw_kc hz_X12_isOf rm_X12_isOf cw_kn) ck_X12_costOf
theorem rm_X12_costOf : cw_rmok mt_all kk_X12_costOf := ⟨rfl, rfl, rfl, rfl, rfl⟩
theorem hz_X12_least : cw_Holds fk_all mt_all cw_Ds cw_sh G (cw_PP G) kk_X12_least := cw_sound (cw_PPok G) cw_dpok_all (by decide) (M := mt_X12_least) rfl (cw_kc hz_X12_costOf rm_X12_costOf (cw_kc hz_X12_does rm_X12_does (cw_kc hz_X12_dropOf rm_X12_dropOf (cw_kc hz_X12_goesOn rm_X12_goesOn (cw_kc hz_X12_isBound rm_X12_isBound (cw_kc hz_X12_isGate rm_X12_isGate (cw_kc hz_X12_isIn rm_X12_isIn (cw_kc hz_X12_isOf rm_X12_isOf (cw_kc hz_X12_loads rm_X12_loads cw_kn))))))))) ck_X12_least
theorem hz_X12_dropBy : cw_Holds fk_all mt_all cw_Ds cw_sh G (cw_PP G) kk_X12_dropBy := cw_sound (cw_PPok G) cw_dpok_all (by decide) (M := mt_X12_dropBy) rfl (cw_kc hz_X12_dropOf rm_X12_dropOf (cw_kc hz_X12_goesOn rm_X12_goesOn (cw_kc hz_X12_loads rm_X12_loads cw_kn))) ck_X12_dropBy
theorem rm_X12_dropBy : cw_rmok mt_all kk_X12_dropBy := ⟨rfl, rfl, rfl, rfl, rfl⟩
theorem hz_X12_way : cw_Holds fk_all mt_all cw_Ds cw_sh G (cw_PP G) kk_X12_way := cw_sound (cw_PPok G) cw_dpok_all (by decide) (M := mt_X12_way) rfl (cw_kc hz_X12_dropBy rm_X12_dropBy (cw_kc hz_X12_isGate rm_X12_isGate (cw_kc hz_X12_isIn rm_X12_isIn cw_kn))) ck_X12_way
theorem hz_X12_enough : cw_Holds fk_all mt_all cw_Ds cw_sh G (cw_PP G) kk_X12_enough := cw_sound (cw_PPok G) cw_dpok_all (by decide) (M := mt_X12_enough) rfl (cw_kc hz_X12_goesOn rm_X12_goesOn (cw_kc hz_X12_isBound rm_X12_isBound (cw_kc hz_X12_isGate rm_X12_isGate (cw_kc hz_X12_isIn rm_X12_isIn (cw_kc hz_X12_loads rm_X12_loads cw_kn))))) ck_X12_enough
theorem hz_X12_bears : cw_Holds fk_all mt_all cw_Ds cw_sh G (cw_PP G) kk_X12_bears := cw_sound (cw_PPok G) cw_dpok_all (by decide) (M := mt_X12_bears) rfl (cw_kc hz_X12_dropOf rm_X12_dropOf (cw_kc hz_X12_goesOn rm_X12_goesOn (cw_kc hz_X12_isBound rm_X12_isBound (cw_kc hz_X12_isGate rm_X12_isGate (cw_kc hz_X12_isIn rm_X12_isIn (cw_kc hz_X12_loads rm_X12_loads cw_kn)))))) ck_X12_bears
theorem hz_X12_knock : cw_Holds fk_all mt_all cw_Ds cw_sh G (cw_PP G) kk_X12_knock := cw_sound (cw_PPok G) cw_dpok_all (by decide) (M := mt_X12_knock) rfl (cw_kc hz_X12_isGate rm_X12_isGate (cw_kc hz_X12_isIn rm_X12_isIn (cw_kc hz_X12_lawOf rm_X12_lawOf (cw_kc hz_X12_layNames rm_X12_layNames (cw_kc hz_X12_loads rm_X12_loads cw_kn))))) ck_X12_knock
theorem hz_X12_known : cw_Holds fk_all mt_all cw_Ds cw_sh G (cw_PP G) kk_X12_known := cw_sound (cw_PPok G) cw_dpok_all (by decide) (M := mt_X12_known) rfl (cw_kc hz_X12_isIn rm_X12_isIn cw_kn) ck_X12_known
theorem hz_X12_knownMany : cw_Holds fk_all mt_all cw_Ds cw_sh G (cw_PP G) kk_X12_knownMany := cw_sound (cw_PPok G) cw_dpok_all (by decide) (M := mt_X12_knownMany) rfl cw_kn ck_X12_knownMany
theorem rm_X12_knownMany : cw_rmok mt_all kk_X12_knownMany := ⟨rfl, rfl, rfl, rfl, rfl⟩
theorem hz_X12_layCounts : cw_Holds fk_all mt_all cw_Ds cw_sh G (cw_PP G) kk_X12_layCounts := (hk_X12_layCounts hz_X12_knownMany)
theorem rm_X12_layCounts : cw_rmok mt_all kk_X12_layCounts := ⟨rfl, rfl, rfl, rfl, rfl⟩
theorem hz_X12_beginsBy : cw_Holds fk_all mt_all cw_Ds cw_sh G (cw_PP G) kk_X12_beginsBy := cw_sound (cw_PPok G) cw_dpok_all (by decide) (M := mt_X12_beginsBy) rfl (cw_kc hz_X12_begins rm_X12_begins cw_kn) ck_X12_beginsBy
theorem rm_X12_beginsBy : cw_rmok mt_all kk_X12_beginsBy := ⟨rfl, rfl, rfl, rfl, rfl⟩
theorem hz_X12_valueNow : cw_Holds fk_all mt_all cw_Ds cw_sh G (cw_PP G) kk_X12_valueNow := cw_sound (cw_PPok G) cw_dpok_all (by decide) (M := mt_X12_valueNow) rfl (cw_kc hz_X12_dropOf rm_X12_dropOf cw_kn) ck_X12_valueNow
theorem rm_X12_valueNow : cw_rmok mt_all kk_X12_valueNow := ⟨rfl, rfl, rfl, rfl, rfl⟩
theorem hz_X12_isSo : cw_Holds fk_all mt_all cw_Ds cw_sh G (cw_PP G) kk_X12_isSo := cw_sound (cw_PPok G) cw_dpok_all (by decide) (M := mt_X12_isSo) rfl (cw_kc hz_X12_isIn rm_X12_isIn (cw_kc hz_X12_knownMany rm_X12_knownMany (cw_kc hz_X12_valueNow rm_X12_valueNow cw_kn))) ck_X12_isSo
theorem rm_X12_isSo : cw_rmok mt_all kk_X12_isSo := ⟨rfl, rfl, rfl, rfl, rfl⟩
theorem hz_X12_isFit : cw_Holds fk_all mt_all cw_Ds cw_sh G (cw_PP G) kk_X12_isFit := cw_sound (cw_PPok G) cw_dpok_all (by decide) (M := mt_X12_isFit) rfl (cw_kc hz_X12_beginsBy rm_X12_beginsBy (cw_kc hz_X12_goes rm_X12_goes (cw_kc hz_X12_isSo rm_X12_isSo (cw_kc hz_X12_knownMany rm_X12_knownMany cw_kn)))) ck_X12_isFit
theorem rm_X12_isFit : cw_rmok mt_all kk_X12_isFit := ⟨rfl, rfl, rfl, rfl, rfl⟩
theorem hz_X12_fitting : cw_Holds fk_all mt_all cw_Ds cw_sh G (cw_PP G) kk_X12_fitting := cw_sound (cw_PPok G) cw_dpok_all (by decide) (M := mt_X12_fitting) rfl (cw_kc hz_X12_isFit rm_X12_isFit (cw_kc hz_X12_layCounts rm_X12_layCounts cw_kn)) ck_X12_fitting
theorem rm_X12_fitting : cw_rmok mt_all kk_X12_fitting := ⟨rfl, rfl, rfl, rfl, rfl⟩
theorem hz_X12_fits : cw_Holds fk_all mt_all cw_Ds cw_sh G (cw_PP G) kk_X12_fits := cw_sound (cw_PPok G) cw_dpok_all (by decide) (M := mt_X12_fits) rfl (cw_kc hz_X12_fitting rm_X12_fitting (cw_kc hz_X12_isGate rm_X12_isGate cw_kn)) ck_X12_fits
theorem hz_X12_weightOf : cw_Holds fk_all mt_all cw_Ds cw_sh G (cw_PP G) kk_X12_weightOf := cw_sound (cw_PPok G) cw_dpok_all (by decide) (M := mt_X12_weightOf) rfl cw_kn ck_X12_weightOf
theorem rm_X12_weightOf : cw_rmok mt_all kk_X12_weightOf := ⟨rfl, rfl, rfl, rfl, rfl⟩
theorem hz_X12_heaviest : cw_Holds fk_all mt_all cw_Ds cw_sh G (cw_PP G) kk_X12_heaviest := cw_sound (cw_PPok G) cw_dpok_all (by decide) (M := mt_X12_heaviest) rfl (cw_kc hz_X12_beginsBy rm_X12_beginsBy (cw_kc hz_X12_goes rm_X12_goes (cw_kc hz_X12_isOf rm_X12_isOf (cw_kc hz_X12_valueNow rm_X12_valueNow (cw_kc hz_X12_weightOf rm_X12_weightOf cw_kn))))) ck_X12_heaviest
theorem rm_X12_heaviest : cw_rmok mt_all kk_X12_heaviest := ⟨rfl, rfl, rfl, rfl, rfl⟩
theorem hz_X12_test : cw_Holds fk_all mt_all cw_Ds cw_sh G (cw_PP G) kk_X12_test := cw_sound (cw_PPok G) cw_dpok_all (by decide) (M := mt_X12_test) rfl (cw_kc hz_X12_fitting rm_X12_fitting (cw_kc hz_X12_heaviest rm_X12_heaviest (cw_kc hz_X12_isGate rm_X12_isGate (cw_kc hz_X12_isIn rm_X12_isIn (cw_kc hz_X12_isOf rm_X12_isOf cw_kn))))) ck_X12_test
theorem hz_X12_lowOf : cw_Holds fk_all mt_all cw_Ds cw_sh G (cw_PP G) kk_X12_lowOf := hk_X12_lowOf
theorem rm_X12_lowOf : cw_rmok mt_all kk_X12_lowOf := ⟨rfl, rfl, rfl, rfl, rfl⟩
theorem hz_X12_isAngle : cw_Holds fk_all mt_all cw_Ds cw_sh G (cw_PP G) kk_X12_isAngle := cw_sound (cw_PPok G) cw_dpok_all (by decide) (M := mt_X12_isAngle) rfl (cw_kc hz_X12_isIn rm_X12_isIn cw_kn) ck_X12_isAngle
theorem rm_X12_isAngle : cw_rmok mt_all kk_X12_isAngle := ⟨rfl, rfl, rfl, rfl, rfl⟩
theorem hz_X12_low : cw_Holds fk_all mt_all cw_Ds cw_sh G (cw_PP G) kk_X12_low := cw_sound (cw_PPok G) cw_dpok_all (by decide) (M := mt_X12_low) rfl (cw_kc hz_X12_isAngle rm_X12_isAngle (cw_kc hz_X12_isGate rm_X12_isGate (cw_kc hz_X12_loads rm_X12_loads (cw_kc hz_X12_lowOf rm_X12_lowOf cw_kn)))) ck_X12_low
theorem hz_X12_rest : cw_Holds fk_all mt_all cw_Ds cw_sh G (cw_PP G) kk_X12_rest := cw_sound (cw_PPok G) cw_dpok_all (by decide) (M := mt_X12_rest) rfl (cw_kc hz_X12_isGate rm_X12_isGate (cw_kc hz_X12_loads rm_X12_loads (cw_kc hz_X12_lowOf rm_X12_lowOf cw_kn))) ck_X12_rest
theorem hz_X12_shutsFrom : cw_Holds fk_all mt_all cw_Ds cw_sh G (cw_PP G) kk_X12_shutsFrom := cw_sound (cw_PPok G) cw_dpok_all (by decide) (M := mt_X12_shutsFrom) rfl (cw_kc hz_X12_lowOf rm_X12_lowOf cw_kn) ck_X12_shutsFrom
theorem rm_X12_shutsFrom : cw_rmok mt_all kk_X12_shutsFrom := ⟨rfl, rfl, rfl, rfl, rfl⟩
theorem hz_X12_shuts : cw_Holds fk_all mt_all cw_Ds cw_sh G (cw_PP G) kk_X12_shuts := cw_sound (cw_PPok G) cw_dpok_all (by decide) (M := mt_X12_shuts) rfl (cw_kc hz_X12_isGate rm_X12_isGate (cw_kc hz_X12_loads rm_X12_loads (cw_kc hz_X12_shutsFrom rm_X12_shutsFrom cw_kn))) ck_X12_shuts
theorem hz_X12_aboveOf : cw_Holds fk_all mt_all cw_Ds cw_sh G (cw_PP G) kk_X12_aboveOf := cw_sound (cw_PPok G) cw_dpok_all (by decide) (M := mt_X12_aboveOf) rfl (cw_kc hz_X12_dropOf rm_X12_dropOf (cw_kc hz_X12_lowOf rm_X12_lowOf (cw_kc hz_X12_spanOf rm_X12_spanOf cw_kn))) ck_X12_aboveOf
theorem rm_X12_aboveOf : cw_rmok mt_all kk_X12_aboveOf := ⟨rfl, rfl, rfl, rfl, rfl⟩
theorem hz_X12_above : cw_Holds fk_all mt_all cw_Ds cw_sh G (cw_PP G) kk_X12_above := cw_sound (cw_PPok G) cw_dpok_all (by decide) (M := mt_X12_above) rfl (cw_kc hz_X12_aboveOf rm_X12_aboveOf (cw_kc hz_X12_isAngle rm_X12_isAngle (cw_kc hz_X12_isGate rm_X12_isGate (cw_kc hz_X12_loads rm_X12_loads cw_kn)))) ck_X12_above
theorem hz_X12_opensTo : cw_Holds fk_all mt_all cw_Ds cw_sh G (cw_PP G) kk_X12_opensTo := cw_sound (cw_PPok G) cw_dpok_all (by decide) (M := mt_X12_opensTo) rfl (cw_kc hz_X12_aboveOf rm_X12_aboveOf cw_kn) ck_X12_opensTo
theorem rm_X12_opensTo : cw_rmok mt_all kk_X12_opensTo := ⟨rfl, rfl, rfl, rfl, rfl⟩
theorem hz_X12_opens : cw_Holds fk_all mt_all cw_Ds cw_sh G (cw_PP G) kk_X12_opens := cw_sound (cw_PPok G) cw_dpok_all (by decide) (M := mt_X12_opens) rfl (cw_kc hz_X12_isGate rm_X12_isGate (cw_kc hz_X12_loads rm_X12_loads (cw_kc hz_X12_opensTo rm_X12_opensTo cw_kn))) ck_X12_opens
theorem hz_X12_stand : cw_Holds fk_all mt_all cw_Ds cw_sh G (cw_PP G) kk_X12_stand := cw_sound (cw_PPok G) cw_dpok_all (by decide) (M := mt_X12_stand) rfl (cw_kc hz_X12_isAngle rm_X12_isAngle (cw_kc hz_X12_isGate rm_X12_isGate (cw_kc hz_X12_isIn rm_X12_isIn (cw_kc hz_X12_loads rm_X12_loads (cw_kc hz_X12_opensTo rm_X12_opensTo (cw_kc hz_X12_shutsFrom rm_X12_shutsFrom (cw_kc hz_X12_sizeOf rm_X12_sizeOf cw_kn))))))) ck_X12_stand
theorem hz_X12_weekOfAll : cw_Holds fk_all mt_all cw_Ds cw_sh G (cw_PP G) kk_X12_weekOfAll := cw_sound (cw_PPok G) cw_dpok_all (by decide) (M := mt_X12_weekOfAll) rfl (cw_kc hz_X12_goes rm_X12_goes (cw_kc hz_X12_isLatched rm_X12_isLatched (cw_kc hz_X12_lays_3 rm_X12_lays_3 (cw_kc hz_X12_lays_4 rm_X12_lays_4 cw_kn)))) ck_X12_weekOfAll
theorem hz_X12_wind : cw_Holds fk_all mt_all cw_Ds cw_sh G (cw_PP G) kk_X12_wind := cw_sound (cw_PPok G) cw_dpok_all (by decide) (M := mt_X12_wind) rfl (cw_kc hz_X12_dropOf rm_X12_dropOf (cw_kc hz_X12_goes rm_X12_goes (cw_kc hz_X12_isBound rm_X12_isBound (cw_kc hz_X12_isGate rm_X12_isGate (cw_kc hz_X12_isIn rm_X12_isIn (cw_kc hz_X12_loads rm_X12_loads cw_kn)))))) ck_X12_wind
theorem hz_X12_keep : cw_Holds fk_all mt_all cw_Ds cw_sh G (cw_PP G) kk_X12_keep := cw_sound (cw_PPok G) cw_dpok_all (by decide) (M := mt_X12_keep) rfl (cw_kc hz_X12_lays_6 rm_X12_lays_6 cw_kn) ck_X12_keep
theorem hz_X12_back : cw_Holds fk_all mt_all cw_Ds cw_sh G (cw_PP G) kk_X12_back := cw_sound (cw_PPok G) cw_dpok_all (by decide) (M := mt_X12_back) rfl (cw_kc hz_X12_lays_7 rm_X12_lays_7 cw_kn) ck_X12_back
theorem hz_X12_count : cw_Holds fk_all mt_all cw_Ds cw_sh G (cw_PP G) kk_X12_count := cw_sound (cw_PPok G) cw_dpok_all (by decide) (M := mt_X12_count) rfl (cw_kc hz_X12_costOf rm_X12_costOf (cw_kc hz_X12_knownMany rm_X12_knownMany cw_kn)) ck_X12_count
end SPZ
