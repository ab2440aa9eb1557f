/-! ===== the class reads words: a word of letters, the step, the beginning ===== -/
section TZ
variable {G : Int} {X : cv_X} {Q : cv_O → Prop} {t : Nat → Int}
theorem oq_X6_readLetters_79 : cw_ho 79 79 (.aload_n 0) 1 0 0 0 := rfl
theorem oq_X6_readLetters_80 : cw_ho 79 80 (.iload_n 1) 1 0 0 0 := rfl
theorem oq_X6_readLetters_81 : cw_ho 79 81 (.bipush 6) 2 0 0 0 := rfl
theorem oq_X6_readLetters_83 : cw_ho 79 83 (.if_icmp .le 7) 3 0 0 0 := rfl
theorem oq_X6_readLetters_86 : cw_ho 79 86 (.iconst 1) 1 0 0 0 := rfl
theorem oq_X6_readLetters_87 : cw_ho 79 87 (.goto 4) 3 0 0 0 := rfl
theorem oq_X6_readLetters_90 : cw_ho 79 90 (.iconst 3) 1 0 0 0 := rfl
theorem oq_X6_readLetters_91 : cw_ho 79 91 (.putfield 58) 3 6 4 0 := rfl
theorem oq_X6_readLetters_94 : cw_ho 79 94 (.iconst 0) 1 0 0 0 := rfl
theorem oq_X6_readLetters_95 : cw_ho 79 95 (.istore_n 2) 1 0 0 0 := rfl
theorem ct_tail {h0 : cv_H} {n a m : Nat} (hwd : ∀ i, i < 34 → ri_at h0 52 i = tz_wc.getD i 0) (hF : ∀ h', cw_T G h' → cw_Fr cw_Ds cw_sh kk_X6_readLetters.2.2.2.2.2.1 h0 h' → ri_at h' 51 2 = n → ri_at h' 51 3 = ((a + m : Nat) : Int) → ri_at h' 51 5 = ri_at h0 51 5 → (6 < m ∧ ri_at h' 51 4 = 1 ∨ m ≤ 6 ∧ ((∃ i, i < 34 ∧ tz_wc.getD i 0 = tz_pv t a m ∧ ri_at h' 51 4 = 2 ∧ ri_at h' 51 6 = i) ∨ (∀ i, i < 34 → tz_wc.getD i 0 ≠ tz_pv t a m) ∧ ri_at h' 51 4 = 3 ∧ ri_at h' 51 6 = tz_pv t a m)) → Q (none, h'))
    {L : cv_L} {x : Int32} {h : cv_H} (hx : x.toInt = m) (g0 : cv_get L 0 = some (cv_r 51)) (g1 : cv_get L 1 = some (cv_i x)) (hT : cw_T G h) (Fh : cw_Fr cw_Ds cw_sh kk_X6_readLetters.2.2.2.2.2.1 h0 h) (hl : ri_at h 51 2 = n) (hat : ri_at h 51 3 = ((a + m : Nat) : Int)) (hpl : ri_at h 51 5 = ri_at h0 51 5) (hv : ri_at h 51 6 = tz_pv t a m) : cw_X X 79 Q 79 L [] h := by
  refine ex_al oq_X6_readLetters_79 g0 ?_
  refine ex_il oq_X6_readLetters_80 g1 ?_
  refine ex_bi oq_X6_readLetters_81 (m := 6) (by decide) (fun x501 hx501 => ?_)
  refine ex_if oq_X6_readLetters_83 (t := 90) rfl rfl (fun (c502 : x.toInt ≤ x501.toInt) => ?_) (fun (c502 : ¬ (x.toInt ≤ x501.toInt)) => ?_)
  · refine ex_ic oq_X6_readLetters_90 (m := 3) (by decide) (fun x503 hx503 => ?_)
    refine ex_pfi oq_X6_readLetters_91 hT (k := 51) (d := 6) rfl rfl rfl (cw_i32 _).1 (cw_i32 _).2 (fun h504 Th504 wh504 => ?_)
    have Fh504 : cw_Fr cw_Ds cw_sh kk_X6_readLetters.2.2.2.2.2.1 h0 h504 := cw_Fr_tr Fh (cw_Fr_wrf wh504 (k := 51) (d := 6) rfl rfl (by decide +kernel))
    have eh504_51_2 : ri_at h504 51 2 = ri_at h 51 2 := ri_ne wh504 (by decide)
    have eh504_51_3 : ri_at h504 51 3 = ri_at h 51 3 := ri_ne wh504 (by decide)
    have eh504_51_4 : ri_at h504 51 4 = x503.toInt := ri_self wh504
    have eh504_51_5 : ri_at h504 51 5 = ri_at h 51 5 := ri_ne wh504 (by decide)
    have eh504_51_6 : ri_at h504 51 6 = ri_at h 51 6 := ri_ne wh504 (by decide)
    refine ex_ic oq_X6_readLetters_94 (m := 0) (by decide) (fun x505 hx505 => ?_)
    refine ex_isA oq_X6_readLetters_95 (fun L506 gL506_2 kL506 => ?_)
    have gL506_0 : cv_get L506 0 = some (cv_r 51) := kL506 0 _ (by decide) (fun q => absurd q (by decide)) g0
    have gL506_1 : cv_get L506 1 = some (cv_i x) := kL506 1 _ (by decide) (fun _ => rfl) g1
    exact ct_words (w := tz_pv t a m) (e := a + m) (n := n) hwd (fun h' b1 b2 b3 b4 b5 b6 => hF h' b1 b2 b3 b4 b5 (.inr ⟨by omega, b6⟩)) 34 0 L506 x505 h504 rfl (by omega) (by omega) gL506_0 gL506_2 Th504 Fh504 (by omega) (by omega) (by omega) (by omega) (by omega) (fun j hj => absurd hj (by omega))
  · refine ex_ic oq_X6_readLetters_86 (m := 1) (by decide) (fun x507 hx507 => ?_)
    refine ex_go oq_X6_readLetters_87 (t := 91) rfl rfl ?_
    refine ex_pfi oq_X6_readLetters_91 hT (k := 51) (d := 6) rfl rfl rfl (cw_i32 _).1 (cw_i32 _).2 (fun h508 Th508 wh508 => ?_)
    have Fh508 : cw_Fr cw_Ds cw_sh kk_X6_readLetters.2.2.2.2.2.1 h0 h508 := cw_Fr_tr Fh (cw_Fr_wrf wh508 (k := 51) (d := 6) rfl rfl (by decide +kernel))
    have eh508_51_2 : ri_at h508 51 2 = ri_at h 51 2 := ri_ne wh508 (by decide)
    have eh508_51_3 : ri_at h508 51 3 = ri_at h 51 3 := ri_ne wh508 (by decide)
    have eh508_51_4 : ri_at h508 51 4 = x507.toInt := ri_self wh508
    have eh508_51_5 : ri_at h508 51 5 = ri_at h 51 5 := ri_ne wh508 (by decide)
    have eh508_51_6 : ri_at h508 51 6 = ri_at h 51 6 := ri_ne wh508 (by decide)
    refine ex_ic oq_X6_readLetters_94 (m := 0) (by decide) (fun x509 hx509 => ?_)
    refine ex_isA oq_X6_readLetters_95 (fun L510 gL510_2 kL510 => ?_)
    have gL510_0 : cv_get L510 0 = some (cv_r 51) := kL510 0 _ (by decide) (fun q => absurd q (by decide)) g0
    have gL510_1 : cv_get L510 1 = some (cv_i x) := kL510 1 _ (by decide) (fun _ => rfl) g1
    refine ex_il oq_X6_readLetters_96 gL510_2 ?_
    refine ex_bi oq_X6_readLetters_97 (m := 34) (by decide) (fun x511 hx511 => ?_)
    refine ex_if oq_X6_readLetters_99 (t := 139) rfl rfl (fun (c512 : x511.toInt ≤ x509.toInt) => ?_) (fun (c512 : ¬ (x511.toInt ≤ x509.toInt)) => ?_)
    · exact ex_retv oq_X6_readLetters_139 rfl (hF h508 Th508 Fh508 (by omega) (by omega) (by omega) (.inl ⟨by omega, by omega⟩))
    · refine ex_al oq_X6_readLetters_102 gL510_0 ?_
      obtain ⟨x513, ax513, rx513, lx513, ux513⟩ := ri_fld (k := 51) (d := 6) (f := 4) Th508 rfl rfl rfl
      try dsimp only at lx513 ux513
      refine ex_gf oq_X6_readLetters_103 Th508 (k := 51) (d := 6) rfl rfl ax513 ?_
      refine ex_ic oq_X6_readLetters_106 (m := 3) (by decide) (fun x514 hx514 => ?_)
      refine ex_if oq_X6_readLetters_107 (t := 139) rfl rfl (fun (c515 : ¬ x513.toInt = x514.toInt) => ?_) (fun (c515 : ¬ (¬ x513.toInt = x514.toInt)) => ?_)
      · exact ex_retv oq_X6_readLetters_139 rfl (hF h508 Th508 Fh508 (by omega) (by omega) (by omega) (.inl ⟨by omega, by omega⟩))
      · exfalso; omega
theorem oq_X6_readLetters_0 : cw_ho 79 0 (.iconst 0) 1 0 0 0 := rfl
theorem oq_X6_readLetters_1 : cw_ho 79 1 (.istore_n 1) 1 0 0 0 := rfl
theorem ct_readLetters {h0 : cv_H} {n a : Nat} (ht : ∀ i, t i = ri_at h0 1 i % 256) (hwd : ∀ i, i < 34 → ri_at h0 52 i = tz_wc.getD i 0) (hT : cw_T G h0) (hn9 : n ≤ 900) (han : a < n) (hla : tz_l t a = true) (hl : ri_at h0 51 2 = n) (hat : ri_at h0 51 3 = a) (hv0 : ri_at h0 51 6 = 0) (hQ : ∀ h', cw_T G h' → cw_Fr cw_Ds cw_sh kk_X6_readLetters.2.2.2.2.2.1 h0 h' → ri_at h' 51 2 = n → ri_at h' 51 5 = ri_at h0 51 5 → ri_at h' 51 3 = (tz_tk t n a).2.2 → tz_rel (tz_tk t n a).1 (tz_tk t n a).2.1 (ri_at h' 51 4) (ri_at h' 51 6) → Q (none, h')) : cw_X X 79 Q 0 (cv_ent 0 [cv_r 51]) [] h0 := by
  have Fh0 : cw_Fr cw_Ds cw_sh kk_X6_readLetters.2.2.2.2.2.1 h0 h0 := cw_Fr_refl
  refine ex_ic oq_X6_readLetters_0 (m := 0) (by decide) (fun x701 hx701 => ?_)
  refine ex_isA oq_X6_readLetters_1 (fun L702 gL702_1 kL702 => ?_)
  have gL702_0 : cv_get L702 0 = some (cv_r 51) := kL702 0 _ (by decide) (fun _ => rfl) rfl
  refine ct_letters (n := n) (a := a) ht hn9 (fun m L x h b1 b2 b3 b4 b5 b6 b7 b8 b9 b10 b11 b12 => ct_tail (t := t) (a := a) (m := m) (n := n) hwd (fun h' d1 d2 d3 d4 d5 d6 => ?_) b1 b2 b3 b4 b5 b6 b7 b8 b10) (n - a) 0 L702 x701 h0 (by omega) (by omega) gL702_0 gL702_1 hT Fh0 (by omega) (by omega) (by omega) rfl (by rw [hv0]; rfl) (by show (0 : Int) ≤ 0 ∧ (0 : Int) < 1073741824; decide) (fun j hj => absurd hj (by omega))
  have hne : 1 ≤ m := by
    have q := tz_to_step (c := tz_l t) (n := n) (p := a) han hla
    have q2 := tz_ge (c := tz_l t) (n := n) (p := a + 1)
    omega
  rcases d6 with ⟨q1, q2⟩ | ⟨q0, ⟨i, q1, q2, q3, q4⟩ | ⟨q1, q2, q3⟩⟩
  · have e := tz_kb han hla (by rw [b9]; omega)
    exact hQ h' d1 d2 d3 d5 (by rw [e]; dsimp only; rw [b9]; exact d4) (by rw [e]; exact tz_r6 q2)
  · have e := tz_kw han hla (by rw [b9]; omega) q1 (by rw [b9, tz_pk_pv q0]; exact q2)
    have hw := tz_fw i q1
    exact hQ h' d1 d2 d3 d5 (by rw [e]; dsimp only; rw [b9]; exact d4) (by rw [e]; exact tz_r1 q3 hw.2.1 hw.2.2 (by omega) (by omega) (by rw [q4, Int.toNat_natCast]))
  · have e := tz_kn han hla (by rw [b9]; omega) (fun i hi => by rw [b9, tz_pk_pv q0]; exact q1 i hi)
    exact hQ h' d1 d2 d3 d5 (by rw [e]; dsimp only; rw [b9]; exact d4) (by rw [e]; exact tz_r2 q2 (by rw [q3, b9, tz_pk_pv q0]))
theorem oq_X6_step_52 : cw_ho 78 52 (.aload_n 0) 1 0 0 0 := rfl
theorem oq_X6_step_53 : cw_ho 78 53 (.aload_n 0) 1 0 0 0 := rfl
theorem oq_X6_step_54 : cw_ho 78 54 (.getfield 46) 3 6 3 0 := rfl
theorem oq_X6_step_57 : cw_ho 78 57 (.putfield 52) 3 6 5 0 := rfl
theorem oq_X6_step_60 : cw_ho 78 60 (.aload_n 0) 1 0 0 0 := rfl
theorem oq_X6_step_61 : cw_ho 78 61 (.iconst 0) 1 0 0 0 := rfl
theorem oq_X6_step_62 : cw_ho 78 62 (.putfield 55) 3 6 6 0 := rfl
theorem oq_X6_step_65 : cw_ho 78 65 (.aload_n 0) 1 0 0 0 := rfl
theorem oq_X6_step_66 : cw_ho 78 66 (.getfield 46) 3 6 3 0 := rfl
theorem oq_X6_step_69 : cw_ho 78 69 (.aload_n 0) 1 0 0 0 := rfl
theorem oq_X6_step_70 : cw_ho 78 70 (.getfield 43) 3 6 2 0 := rfl
theorem oq_X6_step_73 : cw_ho 78 73 (.if_icmp .lt 11) 3 0 0 0 := rfl
theorem oq_X6_step_76 : cw_ho 78 76 (.aload_n 0) 1 0 0 0 := rfl
theorem oq_X6_step_77 : cw_ho 78 77 (.iconst 0) 1 0 0 0 := rfl
theorem oq_X6_step_78 : cw_ho 78 78 (.putfield 58) 3 6 4 0 := rfl
theorem oq_X6_step_81 : cw_ho 78 81 (.goto 86) 3 0 0 0 := rfl
theorem oq_X6_step_84 : cw_ho 78 84 (.aload_n 0) 1 0 0 0 := rfl
theorem oq_X6_step_85 : cw_ho 78 85 (.getfield 15) 3 6 0 4 := rfl
theorem oq_X6_step_88 : cw_ho 78 88 (.aload_n 0) 1 0 0 0 := rfl
theorem oq_X6_step_89 : cw_ho 78 89 (.getfield 46) 3 6 3 0 := rfl
theorem oq_X6_step_92 : cw_ho 78 92 (.baload) 1 0 0 0 := rfl
theorem oq_X6_step_93 : cw_ho 78 93 (.bipush 97) 2 0 0 0 := rfl
theorem oq_X6_step_95 : cw_ho 78 95 (.if_icmp .lt 24) 3 0 0 0 := rfl
theorem oq_X6_step_98 : cw_ho 78 98 (.aload_n 0) 1 0 0 0 := rfl
theorem oq_X6_step_99 : cw_ho 78 99 (.getfield 15) 3 6 0 4 := rfl
theorem oq_X6_step_102 : cw_ho 78 102 (.aload_n 0) 1 0 0 0 := rfl
theorem oq_X6_step_103 : cw_ho 78 103 (.getfield 46) 3 6 3 0 := rfl
theorem oq_X6_step_106 : cw_ho 78 106 (.baload) 1 0 0 0 := rfl
theorem oq_X6_step_107 : cw_ho 78 107 (.bipush 122) 2 0 0 0 := rfl
theorem oq_X6_step_109 : cw_ho 78 109 (.if_icmp .gt 10) 3 0 0 0 := rfl
theorem oq_X6_step_112 : cw_ho 78 112 (.aload_n 0) 1 0 0 0 := rfl
theorem oq_X6_step_113 : cw_ho 78 113 (.invokevirtual 61) 3 79 0 6 := rfl
theorem oq_X6_step_116 : cw_ho 78 116 (.goto 51) 3 0 0 0 := rfl
theorem oq_X6_step_119 : cw_ho 78 119 (.aload_n 0) 1 0 0 0 := rfl
theorem oq_X6_step_120 : cw_ho 78 120 (.getfield 15) 3 6 0 4 := rfl
theorem oq_X6_step_123 : cw_ho 78 123 (.aload_n 0) 1 0 0 0 := rfl
theorem oq_X6_step_124 : cw_ho 78 124 (.getfield 46) 3 6 3 0 := rfl
theorem oq_X6_step_127 : cw_ho 78 127 (.baload) 1 0 0 0 := rfl
theorem oq_X6_step_128 : cw_ho 78 128 (.bipush 48) 2 0 0 0 := rfl
theorem oq_X6_step_130 : cw_ho 78 130 (.if_icmp .lt 24) 3 0 0 0 := rfl
theorem oq_X6_step_133 : cw_ho 78 133 (.aload_n 0) 1 0 0 0 := rfl
theorem oq_X6_step_134 : cw_ho 78 134 (.getfield 15) 3 6 0 4 := rfl
theorem oq_X6_step_137 : cw_ho 78 137 (.aload_n 0) 1 0 0 0 := rfl
theorem oq_X6_step_138 : cw_ho 78 138 (.getfield 46) 3 6 3 0 := rfl
theorem oq_X6_step_141 : cw_ho 78 141 (.baload) 1 0 0 0 := rfl
theorem oq_X6_step_142 : cw_ho 78 142 (.bipush 57) 2 0 0 0 := rfl
theorem oq_X6_step_144 : cw_ho 78 144 (.if_icmp .gt 10) 3 0 0 0 := rfl
theorem oq_X6_step_147 : cw_ho 78 147 (.aload_n 0) 1 0 0 0 := rfl
theorem oq_X6_step_148 : cw_ho 78 148 (.invokevirtual 64) 3 80 0 6 := rfl
theorem oq_X6_step_151 : cw_ho 78 151 (.goto 16) 3 0 0 0 := rfl
theorem oq_X6_step_154 : cw_ho 78 154 (.aload_n 0) 1 0 0 0 := rfl
theorem oq_X6_step_155 : cw_ho 78 155 (.aload_n 0) 1 0 0 0 := rfl
theorem oq_X6_step_156 : cw_ho 78 156 (.getfield 15) 3 6 0 4 := rfl
theorem oq_X6_step_159 : cw_ho 78 159 (.aload_n 0) 1 0 0 0 := rfl
theorem oq_X6_step_160 : cw_ho 78 160 (.getfield 46) 3 6 3 0 := rfl
theorem oq_X6_step_163 : cw_ho 78 163 (.baload) 1 0 0 0 := rfl
theorem oq_X6_step_164 : cw_ho 78 164 (.invokevirtual 67) 3 81 1 6 := rfl
theorem oq_X6_step_167 : cw_ho 78 167 (.return_) 1 0 0 0 := rfl
theorem ct_step52 {h0 : cv_H} {n a : Nat} (ht : ∀ i, t i = ri_at h0 1 i % 256) (hwd : ∀ i, i < 34 → ri_at h0 52 i = tz_wc.getD i 0) (hn9 : n ≤ 900) (hQ : ∀ h', cw_T G h' → cw_Fr cw_Ds cw_sh kk_X6_step.2.2.2.2.2.1 h0 h' → ri_at h' 51 2 = n → ri_at h' 51 5 = a → ri_at h' 51 3 = (tz_tk t n a).2.2 → tz_rel (tz_tk t n a).1 (tz_tk t n a).2.1 (ri_at h' 51 4) (ri_at h' 51 6) → Q (none, h'))
    {L : cv_L} {h : cv_H} (g0 : cv_get L 0 = some (cv_r 51)) (hT : cw_T G h) (Fh : cw_Fr cw_Ds cw_sh kk_X6_step.2.2.2.2.2.1 h0 h) (hl : ri_at h 51 2 = n) (hat : ri_at h 51 3 = a) : cw_X X 78 Q 52 L [] h := by
  have hA : ∀ h, cw_Fr cw_Ds cw_sh kk_X6_step.2.2.2.2.2.1 h0 h → ∀ i, ri_at h 1 i = ri_at h0 1 i := fun h F i => ri_frr F (k := 1) (d := 13) rfl rfl (by decide +kernel)
  have hB : ∀ h, cw_Fr cw_Ds cw_sh kk_X6_step.2.2.2.2.2.1 h0 h → ∀ i, ri_at h 52 i = ri_at h0 52 i := fun h F i => ri_frr F (k := 52) (d := 43) rfl rfl (by decide +kernel)
  refine ex_al oq_X6_step_52 g0 ?_
  refine ex_al oq_X6_step_53 g0 ?_
  obtain ⟨x901, ax901, rx901, lx901, ux901⟩ := ri_fld (k := 51) (d := 6) (f := 3) hT rfl rfl rfl
  try dsimp only at lx901 ux901
  refine ex_gf oq_X6_step_54 hT (k := 51) (d := 6) rfl rfl ax901 ?_
  refine ex_pfi oq_X6_step_57 hT (k := 51) (d := 6) rfl rfl rfl (cw_i32 _).1 (cw_i32 _).2 (fun h902 Th902 wh902 => ?_)
  have Fh902 : cw_Fr cw_Ds cw_sh kk_X6_step.2.2.2.2.2.1 h0 h902 := cw_Fr_tr Fh (cw_Fr_wrf wh902 (k := 51) (d := 6) rfl rfl (by decide +kernel))
  have eh902_51_2 : ri_at h902 51 2 = ri_at h 51 2 := ri_ne wh902 (by decide)
  have eh902_51_3 : ri_at h902 51 3 = ri_at h 51 3 := ri_ne wh902 (by decide)
  have eh902_51_4 : ri_at h902 51 4 = ri_at h 51 4 := ri_ne wh902 (by decide)
  have eh902_51_5 : ri_at h902 51 5 = x901.toInt := ri_self wh902
  have eh902_51_6 : ri_at h902 51 6 = ri_at h 51 6 := ri_ne wh902 (by decide)
  refine ex_al oq_X6_step_60 g0 ?_
  refine ex_ic oq_X6_step_61 (m := 0) (by decide) (fun x903 hx903 => ?_)
  refine ex_pfi oq_X6_step_62 Th902 (k := 51) (d := 6) rfl rfl rfl (cw_i32 _).1 (cw_i32 _).2 (fun h904 Th904 wh904 => ?_)
  have Fh904 : cw_Fr cw_Ds cw_sh kk_X6_step.2.2.2.2.2.1 h0 h904 := cw_Fr_tr Fh902 (cw_Fr_wrf wh904 (k := 51) (d := 6) rfl rfl (by decide +kernel))
  have eh904_51_2 : ri_at h904 51 2 = ri_at h902 51 2 := ri_ne wh904 (by decide)
  have eh904_51_3 : ri_at h904 51 3 = ri_at h902 51 3 := ri_ne wh904 (by decide)
  have eh904_51_4 : ri_at h904 51 4 = ri_at h902 51 4 := ri_ne wh904 (by decide)
  have eh904_51_5 : ri_at h904 51 5 = ri_at h902 51 5 := ri_ne wh904 (by decide)
  have eh904_51_6 : ri_at h904 51 6 = x903.toInt := ri_self wh904
  refine ex_al oq_X6_step_65 g0 ?_
  obtain ⟨x905, ax905, rx905, lx905, ux905⟩ := ri_fld (k := 51) (d := 6) (f := 3) Th904 rfl rfl rfl
  try dsimp only at lx905 ux905
  refine ex_gf oq_X6_step_66 Th904 (k := 51) (d := 6) rfl rfl ax905 ?_
  refine ex_al oq_X6_step_69 g0 ?_
  obtain ⟨x906, ax906, rx906, lx906, ux906⟩ := ri_fld (k := 51) (d := 6) (f := 2) Th904 rfl rfl rfl
  try dsimp only at lx906 ux906
  refine ex_gf oq_X6_step_70 Th904 (k := 51) (d := 6) rfl rfl ax906 ?_
  refine ex_if oq_X6_step_73 (t := 84) rfl rfl (fun (c907 : x905.toInt < x906.toInt) => ?_) (fun (c907 : ¬ (x905.toInt < x906.toInt)) => ?_)
  · refine ex_al oq_X6_step_84 g0 ?_
    refine ex_gf oq_X6_step_85 Th904 (k := 51) (d := 6) rfl rfl (ri_ref (k := 51) (k' := 1) (d := 6) (f := 0) Th904 rfl rfl rfl (by decide) (ri_uniq (by decide +kernel))) ?_
    refine ex_al oq_X6_step_88 g0 ?_
    obtain ⟨x908, ax908, rx908, lx908, ux908⟩ := ri_fld (k := 51) (d := 6) (f := 3) Th904 rfl rfl rfl
    try dsimp only at lx908 ux908
    refine ex_gf oq_X6_step_89 Th904 (k := 51) (d := 6) rfl rfl ax908 ?_
    refine ex_ba1 oq_X6_step_92 Th904 (k := 1) (d := 13) (j := a) rfl rfl rfl (by omega) (by omega) (fun x909 hx909 lx909 ux909 => ?_)
    try dsimp only at lx909 ux909
    have tx909 : t (a) = x909.toInt % 256 := by rw [ht, ← hA _ Fh904, hx909]
    refine ex_bi oq_X6_step_93 (m := 97) (by decide) (fun x910 hx910 => ?_)
    refine ex_if oq_X6_step_95 (t := 119) rfl rfl (fun (c911 : x909.toInt < x910.toInt) => ?_) (fun (c911 : ¬ (x909.toInt < x910.toInt)) => ?_)
    · refine ex_al oq_X6_step_119 g0 ?_
      refine ex_gf oq_X6_step_120 Th904 (k := 51) (d := 6) rfl rfl (ri_ref (k := 51) (k' := 1) (d := 6) (f := 0) Th904 rfl rfl rfl (by decide) (ri_uniq (by decide +kernel))) ?_
      refine ex_al oq_X6_step_123 g0 ?_
      obtain ⟨x912, ax912, rx912, lx912, ux912⟩ := ri_fld (k := 51) (d := 6) (f := 3) Th904 rfl rfl rfl
      try dsimp only at lx912 ux912
      refine ex_gf oq_X6_step_124 Th904 (k := 51) (d := 6) rfl rfl ax912 ?_
      refine ex_ba1 oq_X6_step_127 Th904 (k := 1) (d := 13) (j := a) rfl rfl rfl (by omega) (by omega) (fun x913 hx913 lx913 ux913 => ?_)
      try dsimp only at lx913 ux913
      have tx913 : t (a) = x913.toInt % 256 := by rw [ht, ← hA _ Fh904, hx913]
      refine ex_bi oq_X6_step_128 (m := 48) (by decide) (fun x914 hx914 => ?_)
      refine ex_if oq_X6_step_130 (t := 154) rfl rfl (fun (c915 : x913.toInt < x914.toInt) => ?_) (fun (c915 : ¬ (x913.toInt < x914.toInt)) => ?_)
      · refine ex_al oq_X6_step_154 g0 ?_
        refine ex_al oq_X6_step_155 g0 ?_
        refine ex_gf oq_X6_step_156 Th904 (k := 51) (d := 6) rfl rfl (ri_ref (k := 51) (k' := 1) (d := 6) (f := 0) Th904 rfl rfl rfl (by decide) (ri_uniq (by decide +kernel))) ?_
        refine ex_al oq_X6_step_159 g0 ?_
        obtain ⟨x916, ax916, rx916, lx916, ux916⟩ := ri_fld (k := 51) (d := 6) (f := 3) Th904 rfl rfl rfl
        try dsimp only at lx916 ux916
        refine ex_gf oq_X6_step_160 Th904 (k := 51) (d := 6) rfl rfl ax916 ?_
        refine ex_ba1 oq_X6_step_163 Th904 (k := 1) (d := 13) (j := a) rfl rfl rfl (by omega) (by omega) (fun x917 hx917 lx917 ux917 => ?_)
        try dsimp only at lx917 ux917
        have tx917 : t (a) = x917.toInt % 256 := by rw [ht, ← hA _ Fh904, hx917]
        refine ex_cv oq_X6_step_164 (by decide) Th904 (k := 51) (d := 6) (as := [cv_i x917]) (stk := []) rfl rfl rfl rfl rfl rfl ⟨rfl, rfl⟩ (R := fun o => ∃ hb : cv_H, o = (none, hb) ∧ cw_T G hb ∧ cw_Fr cw_Ds cw_sh kk_X6_readSign.2.2.2.2.2.1 h904 hb ∧ ri_at hb 51 2 = n ∧ ri_at hb 51 5 = ri_at h904 51 5 ∧ ri_at hb 51 3 = (tz_tk t n a).2.2 ∧ tz_rel (tz_tk t n a).1 (tz_tk t n a).2.1 (ri_at hb 51 4) (ri_at hb 51 6)) (ct_readSign (t := t) (a := a) (fun i => by rw [ht, ← hA _ Fh904]) Th904 hn9 (by omega) (by omega) (by omega) x917 (by omega) (by omega) (fun hb b1 b2 b3 b4 b5 b6 => ⟨hb, rfl, b1, b2, b3, b4, by rw [tz_ks (by omega) (tz_l_f (by omega)) (tz_d_f (by omega))]; exact b5, by rw [tz_ks (by omega) (tz_l_f (by omega)) (tz_d_f (by omega))]; exact b6⟩)) (fun o ho => ?_)
        obtain ⟨h918, rfl, Th918, Ch918, eh918_51_2, eh918_51_5, dh918, rh918⟩ := ho
        show cw_X _ _ _ _ _ [] h918
        have Fh918 : cw_Fr cw_Ds cw_sh kk_X6_step.2.2.2.2.2.1 h0 h918 := cw_Fr_tr Fh904 (cw_Fr_mono (by decide +kernel) Ch918)
        exact ex_retv oq_X6_step_167 rfl (hQ h918 Th918 Fh918 (by omega) (by omega) dh918 rh918)
      · refine ex_al oq_X6_step_133 g0 ?_
        refine ex_gf oq_X6_step_134 Th904 (k := 51) (d := 6) rfl rfl (ri_ref (k := 51) (k' := 1) (d := 6) (f := 0) Th904 rfl rfl rfl (by decide) (ri_uniq (by decide +kernel))) ?_
        refine ex_al oq_X6_step_137 g0 ?_
        obtain ⟨x919, ax919, rx919, lx919, ux919⟩ := ri_fld (k := 51) (d := 6) (f := 3) Th904 rfl rfl rfl
        try dsimp only at lx919 ux919
        refine ex_gf oq_X6_step_138 Th904 (k := 51) (d := 6) rfl rfl ax919 ?_
        refine ex_ba1 oq_X6_step_141 Th904 (k := 1) (d := 13) (j := a) rfl rfl rfl (by omega) (by omega) (fun x920 hx920 lx920 ux920 => ?_)
        try dsimp only at lx920 ux920
        have tx920 : t (a) = x920.toInt % 256 := by rw [ht, ← hA _ Fh904, hx920]
        refine ex_bi oq_X6_step_142 (m := 57) (by decide) (fun x921 hx921 => ?_)
        refine ex_if oq_X6_step_144 (t := 154) rfl rfl (fun (c922 : x921.toInt < x920.toInt) => ?_) (fun (c922 : ¬ (x921.toInt < x920.toInt)) => ?_)
        · refine ex_al oq_X6_step_154 g0 ?_
          refine ex_al oq_X6_step_155 g0 ?_
          refine ex_gf oq_X6_step_156 Th904 (k := 51) (d := 6) rfl rfl (ri_ref (k := 51) (k' := 1) (d := 6) (f := 0) Th904 rfl rfl rfl (by decide) (ri_uniq (by decide +kernel))) ?_
          refine ex_al oq_X6_step_159 g0 ?_
          obtain ⟨x923, ax923, rx923, lx923, ux923⟩ := ri_fld (k := 51) (d := 6) (f := 3) Th904 rfl rfl rfl
          try dsimp only at lx923 ux923
          refine ex_gf oq_X6_step_160 Th904 (k := 51) (d := 6) rfl rfl ax923 ?_
          refine ex_ba1 oq_X6_step_163 Th904 (k := 1) (d := 13) (j := a) rfl rfl rfl (by omega) (by omega) (fun x924 hx924 lx924 ux924 => ?_)
          try dsimp only at lx924 ux924
          have tx924 : t (a) = x924.toInt % 256 := by rw [ht, ← hA _ Fh904, hx924]
          refine ex_cv oq_X6_step_164 (by decide) Th904 (k := 51) (d := 6) (as := [cv_i x924]) (stk := []) rfl rfl rfl rfl rfl rfl ⟨rfl, rfl⟩ (R := fun o => ∃ hb : cv_H, o = (none, hb) ∧ cw_T G hb ∧ cw_Fr cw_Ds cw_sh kk_X6_readSign.2.2.2.2.2.1 h904 hb ∧ ri_at hb 51 2 = n ∧ ri_at hb 51 5 = ri_at h904 51 5 ∧ ri_at hb 51 3 = (tz_tk t n a).2.2 ∧ tz_rel (tz_tk t n a).1 (tz_tk t n a).2.1 (ri_at hb 51 4) (ri_at hb 51 6)) (ct_readSign (t := t) (a := a) (fun i => by rw [ht, ← hA _ Fh904]) Th904 hn9 (by omega) (by omega) (by omega) x924 (by omega) (by omega) (fun hb b1 b2 b3 b4 b5 b6 => ⟨hb, rfl, b1, b2, b3, b4, by rw [tz_ks (by omega) (tz_l_f (by omega)) (tz_d_f (by omega))]; exact b5, by rw [tz_ks (by omega) (tz_l_f (by omega)) (tz_d_f (by omega))]; exact b6⟩)) (fun o ho => ?_)
          obtain ⟨h925, rfl, Th925, Ch925, eh925_51_2, eh925_51_5, dh925, rh925⟩ := ho
          show cw_X _ _ _ _ _ [] h925
          have Fh925 : cw_Fr cw_Ds cw_sh kk_X6_step.2.2.2.2.2.1 h0 h925 := cw_Fr_tr Fh904 (cw_Fr_mono (by decide +kernel) Ch925)
          exact ex_retv oq_X6_step_167 rfl (hQ h925 Th925 Fh925 (by omega) (by omega) dh925 rh925)
        · refine ex_al oq_X6_step_147 g0 ?_
          refine ex_cv oq_X6_step_148 (by decide) Th904 (k := 51) (d := 6) (as := []) (stk := []) rfl rfl rfl rfl rfl rfl ⟨rfl, rfl⟩ (R := fun o => ∃ hb : cv_H, o = (none, hb) ∧ cw_T G hb ∧ cw_Fr cw_Ds cw_sh kk_X6_readDigits.2.2.2.2.2.1 h904 hb ∧ ri_at hb 51 2 = n ∧ ri_at hb 51 5 = ri_at h904 51 5 ∧ ri_at hb 51 3 = (tz_tk t n a).2.2 ∧ tz_rel (tz_tk t n a).1 (tz_tk t n a).2.1 (ri_at hb 51 4) (ri_at hb 51 6)) (ct_readDigits (t := t) (a := a) (fun i => by rw [ht, ← hA _ Fh904]) hn9 (fun hb b1 b2 b3 b4 b5 b6 b7 => ⟨hb, rfl, b1, b2, b3, b5, by rw [tz_kd (by omega) (tz_l_f (by omega)) (tz_d_t (by omega) (by omega))]; exact b4, by rw [tz_kd (by omega) (tz_l_f (by omega)) (tz_d_t (by omega) (by omega))]; exact tz_r3 b6 b7⟩) (n - a) 0 h904 (by omega) Th904 cw_Fr_refl (by omega) (by omega) rfl rfl (by show tz_nr 0 _; unfold tz_nr; omega)) (fun o ho => ?_)
          obtain ⟨h926, rfl, Th926, Ch926, eh926_51_2, eh926_51_5, dh926, rh926⟩ := ho
          show cw_X _ _ _ _ _ [] h926
          have Fh926 : cw_Fr cw_Ds cw_sh kk_X6_step.2.2.2.2.2.1 h0 h926 := cw_Fr_tr Fh904 (cw_Fr_mono (by decide +kernel) Ch926)
          refine ex_go oq_X6_step_151 (t := 167) rfl rfl ?_
          exact ex_retv oq_X6_step_167 rfl (hQ h926 Th926 Fh926 (by omega) (by omega) dh926 rh926)
    · refine ex_al oq_X6_step_98 g0 ?_
      refine ex_gf oq_X6_step_99 Th904 (k := 51) (d := 6) rfl rfl (ri_ref (k := 51) (k' := 1) (d := 6) (f := 0) Th904 rfl rfl rfl (by decide) (ri_uniq (by decide +kernel))) ?_
      refine ex_al oq_X6_step_102 g0 ?_
      obtain ⟨x927, ax927, rx927, lx927, ux927⟩ := ri_fld (k := 51) (d := 6) (f := 3) Th904 rfl rfl rfl
      try dsimp only at lx927 ux927
      refine ex_gf oq_X6_step_103 Th904 (k := 51) (d := 6) rfl rfl ax927 ?_
      refine ex_ba1 oq_X6_step_106 Th904 (k := 1) (d := 13) (j := a) rfl rfl rfl (by omega) (by omega) (fun x928 hx928 lx928 ux928 => ?_)
      try dsimp only at lx928 ux928
      have tx928 : t (a) = x928.toInt % 256 := by rw [ht, ← hA _ Fh904, hx928]
      refine ex_bi oq_X6_step_107 (m := 122) (by decide) (fun x929 hx929 => ?_)
      refine ex_if oq_X6_step_109 (t := 119) rfl rfl (fun (c930 : x929.toInt < x928.toInt) => ?_) (fun (c930 : ¬ (x929.toInt < x928.toInt)) => ?_)
      · refine ex_al oq_X6_step_119 g0 ?_
        refine ex_gf oq_X6_step_120 Th904 (k := 51) (d := 6) rfl rfl (ri_ref (k := 51) (k' := 1) (d := 6) (f := 0) Th904 rfl rfl rfl (by decide) (ri_uniq (by decide +kernel))) ?_
        refine ex_al oq_X6_step_123 g0 ?_
        obtain ⟨x931, ax931, rx931, lx931, ux931⟩ := ri_fld (k := 51) (d := 6) (f := 3) Th904 rfl rfl rfl
        try dsimp only at lx931 ux931
        refine ex_gf oq_X6_step_124 Th904 (k := 51) (d := 6) rfl rfl ax931 ?_
        refine ex_ba1 oq_X6_step_127 Th904 (k := 1) (d := 13) (j := a) rfl rfl rfl (by omega) (by omega) (fun x932 hx932 lx932 ux932 => ?_)
        try dsimp only at lx932 ux932
        have tx932 : t (a) = x932.toInt % 256 := by rw [ht, ← hA _ Fh904, hx932]
        refine ex_bi oq_X6_step_128 (m := 48) (by decide) (fun x933 hx933 => ?_)
        refine ex_if oq_X6_step_130 (t := 154) rfl rfl (fun (c934 : x932.toInt < x933.toInt) => ?_) (fun (c934 : ¬ (x932.toInt < x933.toInt)) => ?_)
        · refine ex_al oq_X6_step_154 g0 ?_
          refine ex_al oq_X6_step_155 g0 ?_
          refine ex_gf oq_X6_step_156 Th904 (k := 51) (d := 6) rfl rfl (ri_ref (k := 51) (k' := 1) (d := 6) (f := 0) Th904 rfl rfl rfl (by decide) (ri_uniq (by decide +kernel))) ?_
          refine ex_al oq_X6_step_159 g0 ?_
          obtain ⟨x935, ax935, rx935, lx935, ux935⟩ := ri_fld (k := 51) (d := 6) (f := 3) Th904 rfl rfl rfl
          try dsimp only at lx935 ux935
          refine ex_gf oq_X6_step_160 Th904 (k := 51) (d := 6) rfl rfl ax935 ?_
          refine ex_ba1 oq_X6_step_163 Th904 (k := 1) (d := 13) (j := a) rfl rfl rfl (by omega) (by omega) (fun x936 hx936 lx936 ux936 => ?_)
          try dsimp only at lx936 ux936
          have tx936 : t (a) = x936.toInt % 256 := by rw [ht, ← hA _ Fh904, hx936]
          refine ex_cv oq_X6_step_164 (by decide) Th904 (k := 51) (d := 6) (as := [cv_i x936]) (stk := []) rfl rfl rfl rfl rfl rfl ⟨rfl, rfl⟩ (R := fun o => ∃ hb : cv_H, o = (none, hb) ∧ cw_T G hb ∧ cw_Fr cw_Ds cw_sh kk_X6_readSign.2.2.2.2.2.1 h904 hb ∧ ri_at hb 51 2 = n ∧ ri_at hb 51 5 = ri_at h904 51 5 ∧ ri_at hb 51 3 = (tz_tk t n a).2.2 ∧ tz_rel (tz_tk t n a).1 (tz_tk t n a).2.1 (ri_at hb 51 4) (ri_at hb 51 6)) (ct_readSign (t := t) (a := a) (fun i => by rw [ht, ← hA _ Fh904]) Th904 hn9 (by omega) (by omega) (by omega) x936 (by omega) (by omega) (fun hb b1 b2 b3 b4 b5 b6 => ⟨hb, rfl, b1, b2, b3, b4, by rw [tz_ks (by omega) (tz_l_f (by omega)) (tz_d_f (by omega))]; exact b5, by rw [tz_ks (by omega) (tz_l_f (by omega)) (tz_d_f (by omega))]; exact b6⟩)) (fun o ho => ?_)
          obtain ⟨h937, rfl, Th937, Ch937, eh937_51_2, eh937_51_5, dh937, rh937⟩ := ho
          show cw_X _ _ _ _ _ [] h937
          have Fh937 : cw_Fr cw_Ds cw_sh kk_X6_step.2.2.2.2.2.1 h0 h937 := cw_Fr_tr Fh904 (cw_Fr_mono (by decide +kernel) Ch937)
          exact ex_retv oq_X6_step_167 rfl (hQ h937 Th937 Fh937 (by omega) (by omega) dh937 rh937)
        · refine ex_al oq_X6_step_133 g0 ?_
          refine ex_gf oq_X6_step_134 Th904 (k := 51) (d := 6) rfl rfl (ri_ref (k := 51) (k' := 1) (d := 6) (f := 0) Th904 rfl rfl rfl (by decide) (ri_uniq (by decide +kernel))) ?_
          refine ex_al oq_X6_step_137 g0 ?_
          obtain ⟨x938, ax938, rx938, lx938, ux938⟩ := ri_fld (k := 51) (d := 6) (f := 3) Th904 rfl rfl rfl
          try dsimp only at lx938 ux938
          refine ex_gf oq_X6_step_138 Th904 (k := 51) (d := 6) rfl rfl ax938 ?_
          refine ex_ba1 oq_X6_step_141 Th904 (k := 1) (d := 13) (j := a) rfl rfl rfl (by omega) (by omega) (fun x939 hx939 lx939 ux939 => ?_)
          try dsimp only at lx939 ux939
          have tx939 : t (a) = x939.toInt % 256 := by rw [ht, ← hA _ Fh904, hx939]
          refine ex_bi oq_X6_step_142 (m := 57) (by decide) (fun x940 hx940 => ?_)
          refine ex_if oq_X6_step_144 (t := 154) rfl rfl (fun (c941 : x940.toInt < x939.toInt) => ?_) (fun (c941 : ¬ (x940.toInt < x939.toInt)) => ?_)
          · refine ex_al oq_X6_step_154 g0 ?_
            refine ex_al oq_X6_step_155 g0 ?_
            refine ex_gf oq_X6_step_156 Th904 (k := 51) (d := 6) rfl rfl (ri_ref (k := 51) (k' := 1) (d := 6) (f := 0) Th904 rfl rfl rfl (by decide) (ri_uniq (by decide +kernel))) ?_
            refine ex_al oq_X6_step_159 g0 ?_
            obtain ⟨x942, ax942, rx942, lx942, ux942⟩ := ri_fld (k := 51) (d := 6) (f := 3) Th904 rfl rfl rfl
            try dsimp only at lx942 ux942
            refine ex_gf oq_X6_step_160 Th904 (k := 51) (d := 6) rfl rfl ax942 ?_
            refine ex_ba1 oq_X6_step_163 Th904 (k := 1) (d := 13) (j := a) rfl rfl rfl (by omega) (by omega) (fun x943 hx943 lx943 ux943 => ?_)
            try dsimp only at lx943 ux943
            have tx943 : t (a) = x943.toInt % 256 := by rw [ht, ← hA _ Fh904, hx943]
            refine ex_cv oq_X6_step_164 (by decide) Th904 (k := 51) (d := 6) (as := [cv_i x943]) (stk := []) rfl rfl rfl rfl rfl rfl ⟨rfl, rfl⟩ (R := fun o => ∃ hb : cv_H, o = (none, hb) ∧ cw_T G hb ∧ cw_Fr cw_Ds cw_sh kk_X6_readSign.2.2.2.2.2.1 h904 hb ∧ ri_at hb 51 2 = n ∧ ri_at hb 51 5 = ri_at h904 51 5 ∧ ri_at hb 51 3 = (tz_tk t n a).2.2 ∧ tz_rel (tz_tk t n a).1 (tz_tk t n a).2.1 (ri_at hb 51 4) (ri_at hb 51 6)) (ct_readSign (t := t) (a := a) (fun i => by rw [ht, ← hA _ Fh904]) Th904 hn9 (by omega) (by omega) (by omega) x943 (by omega) (by omega) (fun hb b1 b2 b3 b4 b5 b6 => ⟨hb, rfl, b1, b2, b3, b4, by rw [tz_ks (by omega) (tz_l_f (by omega)) (tz_d_f (by omega))]; exact b5, by rw [tz_ks (by omega) (tz_l_f (by omega)) (tz_d_f (by omega))]; exact b6⟩)) (fun o ho => ?_)
            obtain ⟨h944, rfl, Th944, Ch944, eh944_51_2, eh944_51_5, dh944, rh944⟩ := ho
            show cw_X _ _ _ _ _ [] h944
            have Fh944 : cw_Fr cw_Ds cw_sh kk_X6_step.2.2.2.2.2.1 h0 h944 := cw_Fr_tr Fh904 (cw_Fr_mono (by decide +kernel) Ch944)
            exact ex_retv oq_X6_step_167 rfl (hQ h944 Th944 Fh944 (by omega) (by omega) dh944 rh944)
          · refine ex_al oq_X6_step_147 g0 ?_
            refine ex_cv oq_X6_step_148 (by decide) Th904 (k := 51) (d := 6) (as := []) (stk := []) rfl rfl rfl rfl rfl rfl ⟨rfl, rfl⟩ (R := fun o => ∃ hb : cv_H, o = (none, hb) ∧ cw_T G hb ∧ cw_Fr cw_Ds cw_sh kk_X6_readDigits.2.2.2.2.2.1 h904 hb ∧ ri_at hb 51 2 = n ∧ ri_at hb 51 5 = ri_at h904 51 5 ∧ ri_at hb 51 3 = (tz_tk t n a).2.2 ∧ tz_rel (tz_tk t n a).1 (tz_tk t n a).2.1 (ri_at hb 51 4) (ri_at hb 51 6)) (ct_readDigits (t := t) (a := a) (fun i => by rw [ht, ← hA _ Fh904]) hn9 (fun hb b1 b2 b3 b4 b5 b6 b7 => ⟨hb, rfl, b1, b2, b3, b5, by rw [tz_kd (by omega) (tz_l_f (by omega)) (tz_d_t (by omega) (by omega))]; exact b4, by rw [tz_kd (by omega) (tz_l_f (by omega)) (tz_d_t (by omega) (by omega))]; exact tz_r3 b6 b7⟩) (n - a) 0 h904 (by omega) Th904 cw_Fr_refl (by omega) (by omega) rfl rfl (by show tz_nr 0 _; unfold tz_nr; omega)) (fun o ho => ?_)
            obtain ⟨h945, rfl, Th945, Ch945, eh945_51_2, eh945_51_5, dh945, rh945⟩ := ho
            show cw_X _ _ _ _ _ [] h945
            have Fh945 : cw_Fr cw_Ds cw_sh kk_X6_step.2.2.2.2.2.1 h0 h945 := cw_Fr_tr Fh904 (cw_Fr_mono (by decide +kernel) Ch945)
            refine ex_go oq_X6_step_151 (t := 167) rfl rfl ?_
            exact ex_retv oq_X6_step_167 rfl (hQ h945 Th945 Fh945 (by omega) (by omega) dh945 rh945)
      · refine ex_al oq_X6_step_112 g0 ?_
        refine ex_cv oq_X6_step_113 (by decide) Th904 (k := 51) (d := 6) (as := []) (stk := []) rfl rfl rfl rfl rfl rfl ⟨rfl, rfl⟩ (R := fun o => ∃ hb : cv_H, o = (none, hb) ∧ cw_T G hb ∧ cw_Fr cw_Ds cw_sh kk_X6_readLetters.2.2.2.2.2.1 h904 hb ∧ ri_at hb 51 2 = n ∧ ri_at hb 51 5 = ri_at h904 51 5 ∧ ri_at hb 51 3 = (tz_tk t n a).2.2 ∧ tz_rel (tz_tk t n a).1 (tz_tk t n a).2.1 (ri_at hb 51 4) (ri_at hb 51 6)) (ct_readLetters (t := t) (a := a) (fun i => by rw [ht, ← hA _ Fh904]) (fun i hi => by rw [hB _ Fh904]; exact hwd i hi) Th904 hn9 (by omega) (tz_l_t (by omega) (by omega)) (by omega) (by omega) (by omega) (fun hb b1 b2 b3 b4 b5 b6 => ⟨hb, rfl, b1, b2, b3, b4, b5, b6⟩)) (fun o ho => ?_)
        obtain ⟨h946, rfl, Th946, Ch946, eh946_51_2, eh946_51_5, dh946, rh946⟩ := ho
        show cw_X _ _ _ _ _ [] h946
        have Fh946 : cw_Fr cw_Ds cw_sh kk_X6_step.2.2.2.2.2.1 h0 h946 := cw_Fr_tr Fh904 (cw_Fr_mono (by decide +kernel) Ch946)
        refine ex_go oq_X6_step_116 (t := 167) rfl rfl ?_
        exact ex_retv oq_X6_step_167 rfl (hQ h946 Th946 Fh946 (by omega) (by omega) dh946 rh946)
  · refine ex_al oq_X6_step_76 g0 ?_
    refine ex_ic oq_X6_step_77 (m := 0) (by decide) (fun x947 hx947 => ?_)
    refine ex_pfi oq_X6_step_78 Th904 (k := 51) (d := 6) rfl rfl rfl (cw_i32 _).1 (cw_i32 _).2 (fun h948 Th948 wh948 => ?_)
    have Fh948 : cw_Fr cw_Ds cw_sh kk_X6_step.2.2.2.2.2.1 h0 h948 := cw_Fr_tr Fh904 (cw_Fr_wrf wh948 (k := 51) (d := 6) rfl rfl (by decide +kernel))
    have eh948_51_2 : ri_at h948 51 2 = ri_at h904 51 2 := ri_ne wh948 (by decide)
    have eh948_51_3 : ri_at h948 51 3 = ri_at h904 51 3 := ri_ne wh948 (by decide)
    have eh948_51_4 : ri_at h948 51 4 = x947.toInt := ri_self wh948
    have eh948_51_5 : ri_at h948 51 5 = ri_at h904 51 5 := ri_ne wh948 (by decide)
    have eh948_51_6 : ri_at h948 51 6 = ri_at h904 51 6 := ri_ne wh948 (by decide)
    refine ex_go oq_X6_step_81 (t := 167) rfl rfl ?_
    exact ex_retv oq_X6_step_167 rfl (hQ h948 Th948 Fh948 (by omega) (by omega) (by rw [tz_ke (by omega)]; dsimp only; omega) (by rw [tz_ke (by omega)]; exact tz_r0 (by omega)))
theorem oq_X6_step_0 : cw_ho 78 0 (.aload_n 0) 1 0 0 0 := rfl
theorem oq_X6_step_1 : cw_ho 78 1 (.getfield 46) 3 6 3 0 := rfl
theorem oq_X6_step_4 : cw_ho 78 4 (.aload_n 0) 1 0 0 0 := rfl
theorem oq_X6_step_5 : cw_ho 78 5 (.getfield 43) 3 6 2 0 := rfl
theorem oq_X6_step_8 : cw_ho 78 8 (.if_icmp .ge 44) 3 0 0 0 := rfl
theorem oq_X6_step_11 : cw_ho 78 11 (.aload_n 0) 1 0 0 0 := rfl
theorem oq_X6_step_12 : cw_ho 78 12 (.getfield 15) 3 6 0 4 := rfl
theorem oq_X6_step_15 : cw_ho 78 15 (.aload_n 0) 1 0 0 0 := rfl
theorem oq_X6_step_16 : cw_ho 78 16 (.getfield 46) 3 6 3 0 := rfl
theorem oq_X6_step_19 : cw_ho 78 19 (.baload) 1 0 0 0 := rfl
theorem oq_X6_step_20 : cw_ho 78 20 (.bipush 32) 2 0 0 0 := rfl
theorem oq_X6_step_22 : cw_ho 78 22 (.if_icmp .eq 17) 3 0 0 0 := rfl
theorem oq_X6_step_25 : cw_ho 78 25 (.aload_n 0) 1 0 0 0 := rfl
theorem oq_X6_step_26 : cw_ho 78 26 (.getfield 15) 3 6 0 4 := rfl
theorem oq_X6_step_29 : cw_ho 78 29 (.aload_n 0) 1 0 0 0 := rfl
theorem oq_X6_step_30 : cw_ho 78 30 (.getfield 46) 3 6 3 0 := rfl
theorem oq_X6_step_33 : cw_ho 78 33 (.baload) 1 0 0 0 := rfl
theorem oq_X6_step_34 : cw_ho 78 34 (.bipush 10) 2 0 0 0 := rfl
theorem oq_X6_step_36 : cw_ho 78 36 (.if_icmp .ne 16) 3 0 0 0 := rfl
theorem oq_X6_step_39 : cw_ho 78 39 (.aload_n 0) 1 0 0 0 := rfl
theorem oq_X6_step_40 : cw_ho 78 40 (.dup) 1 0 0 0 := rfl
theorem oq_X6_step_41 : cw_ho 78 41 (.getfield 46) 3 6 3 0 := rfl
theorem oq_X6_step_44 : cw_ho 78 44 (.iconst 1) 1 0 0 0 := rfl
theorem oq_X6_step_45 : cw_ho 78 45 (.iadd) 1 0 0 0 := rfl
theorem oq_X6_step_46 : cw_ho 78 46 (.putfield 46) 3 6 3 0 := rfl
theorem oq_X6_step_49 : cw_ho 78 49 (.goto (-49)) 3 0 0 0 := rfl
theorem ct_stepL {h0 : cv_H} {n p0 : Nat} (ht : ∀ i, t i = ri_at h0 1 i % 256) (hwd : ∀ i, i < 34 → ri_at h0 52 i = tz_wc.getD i 0) (hn9 : n ≤ 900) (hQ : ∀ h', cw_T G h' → cw_Fr cw_Ds cw_sh kk_X6_step.2.2.2.2.2.1 h0 h' → ri_at h' 51 2 = n → ri_at h' 51 5 = tz_at t n p0 → ri_at h' 51 3 = (tz_T t n p0).2.2 → tz_rel (tz_T t n p0).1 (tz_T t n p0).2.1 (ri_at h' 51 4) (ri_at h' 51 6) → Q (none, h')) :
    ∀ (f p : Nat) (h : cv_H), n - p = f → cw_T G h → cw_Fr cw_Ds cw_sh kk_X6_step.2.2.2.2.2.1 h0 h → ri_at h 51 2 = n → ri_at h 51 3 = p → tz_to (tz_b t) n p = tz_at t n p0 → cw_X X 78 Q 0 (cv_ent 0 [cv_r 51]) [] h := by
  have hA : ∀ h, cw_Fr cw_Ds cw_sh kk_X6_step.2.2.2.2.2.1 h0 h → ∀ i, ri_at h 1 i = ri_at h0 1 i := fun h F i => ri_frr F (k := 1) (d := 13) rfl rfl (by decide +kernel)
  intro f
  induction f with
  | zero =>
    intro p h hf hT Fh hl hat hst
    refine ex_al oq_X6_step_0 rfl ?_
    obtain ⟨x1101, ax1101, rx1101, lx1101, ux1101⟩ := ri_fld (k := 51) (d := 6) (f := 3) hT rfl rfl rfl
    try dsimp only at lx1101 ux1101
    refine ex_gf oq_X6_step_1 hT (k := 51) (d := 6) rfl rfl ax1101 ?_
    refine ex_al oq_X6_step_4 rfl ?_
    obtain ⟨x1102, ax1102, rx1102, lx1102, ux1102⟩ := ri_fld (k := 51) (d := 6) (f := 2) hT rfl rfl rfl
    try dsimp only at lx1102 ux1102
    refine ex_gf oq_X6_step_5 hT (k := 51) (d := 6) rfl rfl ax1102 ?_
    refine ex_if oq_X6_step_8 (t := 52) rfl rfl (fun (c1103 : x1102.toInt ≤ x1101.toInt) => ?_) (fun (c1103 : ¬ (x1102.toInt ≤ x1101.toInt)) => ?_)
    · exact ct_step52 (t := t) (n := n) (a := tz_at t n p0) ht hwd hn9 hQ rfl hT Fh (by omega) (by rw [show tz_at t n p0 = p from by rw [← hst]; exact tz_to_stop (c := tz_b t) (n := n) (p := p) (fun q => tz_b_f (t := t) (i := p) (by omega) (by omega))]; omega)
    · exfalso; omega
  | succ f ih =>
    intro p h hf hT Fh hl hat hst
    refine ex_al oq_X6_step_0 rfl ?_
    obtain ⟨x1101, ax1101, rx1101, lx1101, ux1101⟩ := ri_fld (k := 51) (d := 6) (f := 3) hT rfl rfl rfl
    try dsimp only at lx1101 ux1101
    refine ex_gf oq_X6_step_1 hT (k := 51) (d := 6) rfl rfl ax1101 ?_
    refine ex_al oq_X6_step_4 rfl ?_
    obtain ⟨x1102, ax1102, rx1102, lx1102, ux1102⟩ := ri_fld (k := 51) (d := 6) (f := 2) hT rfl rfl rfl
    try dsimp only at lx1102 ux1102
    refine ex_gf oq_X6_step_5 hT (k := 51) (d := 6) rfl rfl ax1102 ?_
    refine ex_if oq_X6_step_8 (t := 52) rfl rfl (fun (c1103 : x1102.toInt ≤ x1101.toInt) => ?_) (fun (c1103 : ¬ (x1102.toInt ≤ x1101.toInt)) => ?_)
    · exact ct_step52 (t := t) (n := n) (a := tz_at t n p0) ht hwd hn9 hQ rfl hT Fh (by omega) (by rw [show tz_at t n p0 = p from by rw [← hst]; exact tz_to_stop (c := tz_b t) (n := n) (p := p) (fun q => tz_b_f (t := t) (i := p) (by omega) (by omega))]; omega)
    · refine ex_al oq_X6_step_11 rfl ?_
      refine ex_gf oq_X6_step_12 hT (k := 51) (d := 6) rfl rfl (ri_ref (k := 51) (k' := 1) (d := 6) (f := 0) hT rfl rfl rfl (by decide) (ri_uniq (by decide +kernel))) ?_
      refine ex_al oq_X6_step_15 rfl ?_
      obtain ⟨x1104, ax1104, rx1104, lx1104, ux1104⟩ := ri_fld (k := 51) (d := 6) (f := 3) hT rfl rfl rfl
      try dsimp only at lx1104 ux1104
      refine ex_gf oq_X6_step_16 hT (k := 51) (d := 6) rfl rfl ax1104 ?_
      refine ex_ba1 oq_X6_step_19 hT (k := 1) (d := 13) (j := p) rfl rfl rfl (by omega) (by omega) (fun x1105 hx1105 lx1105 ux1105 => ?_)
      try dsimp only at lx1105 ux1105
      have tx1105 : t (p) = x1105.toInt % 256 := by rw [ht, ← hA _ Fh, hx1105]
      refine ex_bi oq_X6_step_20 (m := 32) (by decide) (fun x1106 hx1106 => ?_)
      refine ex_if oq_X6_step_22 (t := 39) rfl rfl (fun (c1107 : x1105.toInt = x1106.toInt) => ?_) (fun (c1107 : ¬ (x1105.toInt = x1106.toInt)) => ?_)
      · refine ex_al oq_X6_step_39 rfl ?_
        refine ex_dup oq_X6_step_40 rfl ?_
        obtain ⟨x1108, ax1108, rx1108, lx1108, ux1108⟩ := ri_fld (k := 51) (d := 6) (f := 3) hT rfl rfl rfl
        try dsimp only at lx1108 ux1108
        refine ex_gf oq_X6_step_41 hT (k := 51) (d := 6) rfl rfl ax1108 ?_
        refine ex_ic oq_X6_step_44 (m := 1) (by decide) (fun x1109 hx1109 => ?_)
        refine ex_add oq_X6_step_45 (by omega) (fun x1110 hx1110 => ?_)
        refine ex_pfi oq_X6_step_46 hT (k := 51) (d := 6) rfl rfl rfl (by omega) (by omega) (fun h1111 Th1111 wh1111 => ?_)
        have Fh1111 : cw_Fr cw_Ds cw_sh kk_X6_step.2.2.2.2.2.1 h0 h1111 := cw_Fr_tr Fh (cw_Fr_wrf wh1111 (k := 51) (d := 6) rfl rfl (by decide +kernel))
        have eh1111_51_2 : ri_at h1111 51 2 = ri_at h 51 2 := ri_ne wh1111 (by decide)
        have eh1111_51_3 : ri_at h1111 51 3 = x1110.toInt := ri_self wh1111
        have eh1111_51_4 : ri_at h1111 51 4 = ri_at h 51 4 := ri_ne wh1111 (by decide)
        have eh1111_51_5 : ri_at h1111 51 5 = ri_at h 51 5 := ri_ne wh1111 (by decide)
        have eh1111_51_6 : ri_at h1111 51 6 = ri_at h 51 6 := ri_ne wh1111 (by decide)
        refine ex_go oq_X6_step_49 (t := 0) rfl rfl ?_
        exact ih (p + 1) h1111 (by omega) Th1111 Fh1111 (by omega) (by omega) (by rw [← hst]; exact (tz_to_step (c := tz_b t) (p := p) (by omega) (tz_b_t (i := p) (by omega))).symm)
      · refine ex_al oq_X6_step_25 rfl ?_
        refine ex_gf oq_X6_step_26 hT (k := 51) (d := 6) rfl rfl (ri_ref (k := 51) (k' := 1) (d := 6) (f := 0) hT rfl rfl rfl (by decide) (ri_uniq (by decide +kernel))) ?_
        refine ex_al oq_X6_step_29 rfl ?_
        obtain ⟨x1112, ax1112, rx1112, lx1112, ux1112⟩ := ri_fld (k := 51) (d := 6) (f := 3) hT rfl rfl rfl
        try dsimp only at lx1112 ux1112
        refine ex_gf oq_X6_step_30 hT (k := 51) (d := 6) rfl rfl ax1112 ?_
        refine ex_ba1 oq_X6_step_33 hT (k := 1) (d := 13) (j := p) rfl rfl rfl (by omega) (by omega) (fun x1113 hx1113 lx1113 ux1113 => ?_)
        try dsimp only at lx1113 ux1113
        have tx1113 : t (p) = x1113.toInt % 256 := by rw [ht, ← hA _ Fh, hx1113]
        refine ex_bi oq_X6_step_34 (m := 10) (by decide) (fun x1114 hx1114 => ?_)
        refine ex_if oq_X6_step_36 (t := 52) rfl rfl (fun (c1115 : ¬ x1113.toInt = x1114.toInt) => ?_) (fun (c1115 : ¬ (¬ x1113.toInt = x1114.toInt)) => ?_)
        · exact ct_step52 (t := t) (n := n) (a := tz_at t n p0) ht hwd hn9 hQ rfl hT Fh (by omega) (by rw [show tz_at t n p0 = p from by rw [← hst]; exact tz_to_stop (c := tz_b t) (n := n) (p := p) (fun q => tz_b_f (t := t) (i := p) (by omega) (by omega))]; omega)
        · refine ex_al oq_X6_step_39 rfl ?_
          refine ex_dup oq_X6_step_40 rfl ?_
          obtain ⟨x1116, ax1116, rx1116, lx1116, ux1116⟩ := ri_fld (k := 51) (d := 6) (f := 3) hT rfl rfl rfl
          try dsimp only at lx1116 ux1116
          refine ex_gf oq_X6_step_41 hT (k := 51) (d := 6) rfl rfl ax1116 ?_
          refine ex_ic oq_X6_step_44 (m := 1) (by decide) (fun x1117 hx1117 => ?_)
          refine ex_add oq_X6_step_45 (by omega) (fun x1118 hx1118 => ?_)
          refine ex_pfi oq_X6_step_46 hT (k := 51) (d := 6) rfl rfl rfl (by omega) (by omega) (fun h1119 Th1119 wh1119 => ?_)
          have Fh1119 : cw_Fr cw_Ds cw_sh kk_X6_step.2.2.2.2.2.1 h0 h1119 := cw_Fr_tr Fh (cw_Fr_wrf wh1119 (k := 51) (d := 6) rfl rfl (by decide +kernel))
          have eh1119_51_2 : ri_at h1119 51 2 = ri_at h 51 2 := ri_ne wh1119 (by decide)
          have eh1119_51_3 : ri_at h1119 51 3 = x1118.toInt := ri_self wh1119
          have eh1119_51_4 : ri_at h1119 51 4 = ri_at h 51 4 := ri_ne wh1119 (by decide)
          have eh1119_51_5 : ri_at h1119 51 5 = ri_at h 51 5 := ri_ne wh1119 (by decide)
          have eh1119_51_6 : ri_at h1119 51 6 = ri_at h 51 6 := ri_ne wh1119 (by decide)
          refine ex_go oq_X6_step_49 (t := 0) rfl rfl ?_
          exact ih (p + 1) h1119 (by omega) Th1119 Fh1119 (by omega) (by omega) (by rw [← hst]; exact (tz_to_step (c := tz_b t) (p := p) (by omega) (tz_b_t (i := p) (by omega))).symm)
/-- the class's step: the word behind the place p -/
theorem ct_step {h0 : cv_H} {n p : Nat} (ht : ∀ i, t i = ri_at h0 1 i % 256) (hwd : ∀ i, i < 34 → ri_at h0 52 i = tz_wc.getD i 0) (hT : cw_T G h0) (hn9 : n ≤ 900) (hl : ri_at h0 51 2 = n) (hat : ri_at h0 51 3 = p) (hQ : ∀ h', cw_T G h' → cw_Fr cw_Ds cw_sh kk_X6_step.2.2.2.2.2.1 h0 h' → ri_at h' 51 2 = n → ri_at h' 51 5 = tz_at t n p → ri_at h' 51 3 = (tz_T t n p).2.2 → tz_rel (tz_T t n p).1 (tz_T t n p).2.1 (ri_at h' 51 4) (ri_at h' 51 6) → Q (none, h')) : cw_X X 78 Q 0 (cv_ent 0 [cv_r 51]) [] h0 := ct_stepL ht hwd hn9 hQ (n - p) p h0 rfl hT cw_Fr_refl hl hat rfl
end TZ
