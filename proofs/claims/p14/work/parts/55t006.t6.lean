section
/-! ===== the reference reads a word ===== -/
section TZ
variable {G : Int} {X : cv_X} {Q : cv_O → Prop} {t : Nat → Int}
theorem tz_yes {x : Int} {a b c' : Prop} (d : x = 1 ∧ a ∧ b ∨ x = 0 ∧ (a → c')) (c : ¬ x = 0) : a ∧ b := by
  rcases d with ⟨_, q⟩ | ⟨q, _⟩
  · exact q
  · exact absurd q c
theorem tz_no {x : Int} {a b c' : Prop} (d : x = 1 ∧ a ∧ b ∨ x = 0 ∧ (a → c')) (c : x = 0) : a → c' := by
  rcases d with ⟨q, _⟩ | ⟨_, q⟩
  · omega
  · exact q
theorem rt_letters {h0 : cv_H} {n a : Nat} (ht : ∀ i, i < n → t i = ri_at h0 112 i) (hn9 : n ≤ 900) {L : cv_L} (g0 : cv_get L 0 = some (cv_r 111)) (hK : ∀ h, cw_T G h → cw_Fr cw_Ds cw_sh kk_X12_token.2.2.2.2.2.1 h0 h → ri_at h 111 6 = n → ri_at h 111 10 = a → ri_at h 111 7 = (tz_to (tz_l t) n a : Nat) → cw_X X 163 Q 114 L [] h) :
    ∀ (f q : Nat) (h : cv_H), n - q = f → cw_T G h → cw_Fr cw_Ds cw_sh kk_X12_token.2.2.2.2.2.1 h0 h → ri_at h 111 6 = n → q ≤ n → ri_at h 111 7 = q → ri_at h 111 10 = a → tz_to (tz_l t) n q = tz_to (tz_l t) n a → cw_X X 163 Q 90 L [] h := by
  have hA : ∀ h, cw_Fr cw_Ds cw_sh kk_X12_token.2.2.2.2.2.1 h0 h → ∀ i, ri_at h 112 i = ri_at h0 112 i := fun h F i => ri_frr F (k := 112) (d := 51) rfl rfl (by decide +kernel)
  intro f
  induction f with
  | zero =>
    intro q h hf hT Fh hs hq hx hat hst
    refine ex_al oq_X12_token_90 g0 ?_
    refine ex_al oq_X12_token_91 g0 ?_
    obtain ⟨x101, ax101, rx101, lx101, ux101⟩ := fi_next hT
    refine ex_gf oq_X12_token_92 hT (k := 111) (d := 12) rfl rfl ax101 ?_
    refine ex_cv oq_X12_token_95 (by decide) hT (k := 111) (d := 12) (as := [cv_i x101]) (stk := []) rfl rfl rfl rfl rfl rfl ⟨rfl, rfl⟩ (R := fun o => ∃ x : Int32, o = (some (cv_i x), h) ∧ (x.toInt = 1 ∧ q < n ∧ tz_l t (q) = true ∨ x.toInt = 0 ∧ (q < n → tz_l t (q) = false))) (rt_isSmall (t := t) (n := n) (i := q) (fun i hi => by rw [ht i hi, ← hA _ Fh]) hT hn9 (by omega) (by omega) (fun x q => ⟨x, rfl, q⟩)) (fun o ho => ?_)
    obtain ⟨x102, rfl, dx102⟩ := ho
    show cw_X _ _ _ _ _ [cv_i x102] h
    refine ex_if0 oq_X12_token_98 (t := 114) rfl rfl (fun (c103 : x102.toInt = 0) => ?_) (fun (c103 : ¬ (x102.toInt = 0)) => ?_)
    · have yx102 := tz_no dx102 c103
      clear dx102
      exact hK h hT Fh (by omega) (by omega) (by rw [← hst, tz_to_stop (c := tz_l t) (n := n) (p := q) yx102]; omega)
    · have yx102 := tz_yes dx102 c103
      clear dx102
      refine ex_al oq_X12_token_101 g0 ?_
      refine ex_dup oq_X12_token_102 rfl ?_
      obtain ⟨x104, ax104, rx104, lx104, ux104⟩ := fi_next hT
      refine ex_gf oq_X12_token_103 hT (k := 111) (d := 12) rfl rfl ax104 ?_
      refine ex_ic oq_X12_token_106 (m := 1) (by decide) (fun x105 hx105 => ?_)
      refine ex_add oq_X12_token_107 (by omega) (fun x106 hx106 => ?_)
      refine ex_pfi oq_X12_token_108 hT (k := 111) (d := 12) rfl rfl rfl (by omega) (by omega) (fun h107 Th107 wh107 => ?_)
      have Fh107 : cw_Fr cw_Ds cw_sh kk_X12_token.2.2.2.2.2.1 h0 h107 := cw_Fr_tr Fh (cw_Fr_wrf wh107 (k := 111) (d := 12) rfl rfl (by decide +kernel))
      have eh107_6 : ri_at h107 111 6 = ri_at h 111 6 := ri_ne wh107 (by decide)
      have eh107_7 : ri_at h107 111 7 = x106.toInt := ri_self wh107
      have eh107_8 : ri_at h107 111 8 = ri_at h 111 8 := ri_ne wh107 (by decide)
      have eh107_9 : ri_at h107 111 9 = ri_at h 111 9 := ri_ne wh107 (by decide)
      have eh107_10 : ri_at h107 111 10 = ri_at h 111 10 := ri_ne wh107 (by decide)
      refine ex_go oq_X12_token_111 (t := 90) rfl rfl ?_
      exact absurd yx102.1 (by omega)
  | succ f ih =>
    intro q h hf hT Fh hs hq hx hat hst
    refine ex_al oq_X12_token_90 g0 ?_
    refine ex_al oq_X12_token_91 g0 ?_
    obtain ⟨x101, ax101, rx101, lx101, ux101⟩ := fi_next hT
    refine ex_gf oq_X12_token_92 hT (k := 111) (d := 12) rfl rfl ax101 ?_
    refine ex_cv oq_X12_token_95 (by decide) hT (k := 111) (d := 12) (as := [cv_i x101]) (stk := []) rfl rfl rfl rfl rfl rfl ⟨rfl, rfl⟩ (R := fun o => ∃ x : Int32, o = (some (cv_i x), h) ∧ (x.toInt = 1 ∧ q < n ∧ tz_l t (q) = true ∨ x.toInt = 0 ∧ (q < n → tz_l t (q) = false))) (rt_isSmall (t := t) (n := n) (i := q) (fun i hi => by rw [ht i hi, ← hA _ Fh]) hT hn9 (by omega) (by omega) (fun x q => ⟨x, rfl, q⟩)) (fun o ho => ?_)
    obtain ⟨x102, rfl, dx102⟩ := ho
    show cw_X _ _ _ _ _ [cv_i x102] h
    refine ex_if0 oq_X12_token_98 (t := 114) rfl rfl (fun (c103 : x102.toInt = 0) => ?_) (fun (c103 : ¬ (x102.toInt = 0)) => ?_)
    · have yx102 := tz_no dx102 c103
      clear dx102
      exact hK h hT Fh (by omega) (by omega) (by rw [← hst, tz_to_stop (c := tz_l t) (n := n) (p := q) yx102]; omega)
    · have yx102 := tz_yes dx102 c103
      clear dx102
      refine ex_al oq_X12_token_101 g0 ?_
      refine ex_dup oq_X12_token_102 rfl ?_
      obtain ⟨x104, ax104, rx104, lx104, ux104⟩ := fi_next hT
      refine ex_gf oq_X12_token_103 hT (k := 111) (d := 12) rfl rfl ax104 ?_
      refine ex_ic oq_X12_token_106 (m := 1) (by decide) (fun x105 hx105 => ?_)
      refine ex_add oq_X12_token_107 (by omega) (fun x106 hx106 => ?_)
      refine ex_pfi oq_X12_token_108 hT (k := 111) (d := 12) rfl rfl rfl (by omega) (by omega) (fun h107 Th107 wh107 => ?_)
      have Fh107 : cw_Fr cw_Ds cw_sh kk_X12_token.2.2.2.2.2.1 h0 h107 := cw_Fr_tr Fh (cw_Fr_wrf wh107 (k := 111) (d := 12) rfl rfl (by decide +kernel))
      have eh107_6 : ri_at h107 111 6 = ri_at h 111 6 := ri_ne wh107 (by decide)
      have eh107_7 : ri_at h107 111 7 = x106.toInt := ri_self wh107
      have eh107_8 : ri_at h107 111 8 = ri_at h 111 8 := ri_ne wh107 (by decide)
      have eh107_9 : ri_at h107 111 9 = ri_at h 111 9 := ri_ne wh107 (by decide)
      have eh107_10 : ri_at h107 111 10 = ri_at h 111 10 := ri_ne wh107 (by decide)
      refine ex_go oq_X12_token_111 (t := 90) rfl rfl ?_
      exact ih (q + 1) h107 (by have := yx102.1; omega) Th107 Fh107 (by omega) (by have := yx102.1; omega) (by omega) (by omega) (by rw [← hst]; exact (tz_to_step (c := tz_l t) (p := q) yx102.1 yx102.2).symm)
theorem tz_e1 {t : Nat → Int} {n a e : Nat} (ha : a < n) (hl : tz_l t a = true) (he : tz_to (tz_l t) n a = e) (hw : 0 ≤ tz_word t a e) : tz_tk t n a = (1, tz_word t a e, e) := by
  unfold tz_tk
  rw [if_pos ha, if_pos hl, he, if_pos hw]
theorem tz_e6 {t : Nat → Int} {n a e : Nat} (ha : a < n) (hl : tz_l t a = true) (he : tz_to (tz_l t) n a = e) (hw : tz_word t a e < 0) (h6 : a + 6 < e) : tz_tk t n a = (6, 0, e) := by
  unfold tz_tk
  rw [if_pos ha, if_pos hl, he, if_neg (by omega), if_pos h6]
theorem tz_e2 {t : Nat → Int} {n a e : Nat} (ha : a < n) (hl : tz_l t a = true) (he : tz_to (tz_l t) n a = e) (hw : tz_word t a e < 0) (h6 : e ≤ a + 6) : tz_tk t n a = (2, tz_pk t a e, e) := by
  unfold tz_tk
  rw [if_pos ha, if_pos hl, he, if_neg (by omega), if_neg (by omega)]
theorem rt_114 {h0 : cv_H} {n a : Nat} (ht : ∀ i, i < n → t i = ri_at h0 112 i) (hn9 : n ≤ 900) (hwr : ∀ i, i < 177 → ri_at h0 113 i = pp_words.getD i 0) (han : a < n) (hla : tz_l t a = true) {e : Nat} (he : tz_to (tz_l t) n a = e) (hF : ∀ h', cw_T G h' → cw_Fr cw_Ds cw_sh kk_X12_token.2.2.2.2.2.1 h0 h' → ri_at h' 111 6 = n → ri_at h' 111 10 = a → ri_at h' 111 7 = (tz_tk t n a).2.2 → ri_at h' 111 8 = (tz_tk t n a).1 → ((tz_tk t n a).1 ≠ 0 → (tz_tk t n a).1 ≠ 6 → ri_at h' 111 9 = (tz_tk t n a).2.1) → Q (none, h'))
    {L : cv_L} {h : cv_H} (g0 : cv_get L 0 = some (cv_r 111)) (hT : cw_T G h) (Fh : cw_Fr cw_Ds cw_sh kk_X12_token.2.2.2.2.2.1 h0 h) (hs : ri_at h 111 6 = n) (hat : ri_at h 111 10 = a) (hx : ri_at h 111 7 = e) : cw_X X 163 Q 114 L [] h := by
  have hA : ∀ h, cw_Fr cw_Ds cw_sh kk_X12_token.2.2.2.2.2.1 h0 h → ∀ i, ri_at h 112 i = ri_at h0 112 i := fun h F i => ri_frr F (k := 112) (d := 51) rfl rfl (by decide +kernel)
  have hB : ∀ h, cw_Fr cw_Ds cw_sh kk_X12_token.2.2.2.2.2.1 h0 h → ∀ i, ri_at h 113 i = ri_at h0 113 i := fun h F i => ri_frr F (k := 113) (d := 52) rfl rfl (by decide +kernel)
  have hen : e ≤ n := by rw [← he]; exact tz_le (by omega)
  have hae : a ≤ e := by rw [← he]; exact tz_ge
  have hlet : ∀ i, a ≤ i → i < e → 97 ≤ t i ∧ t i ≤ 122 := fun i h1 h2 => tz_l_e (tz_in (c := tz_l t) (n := n) (p := a) h1 (by rw [he]; exact h2))
  refine ex_al oq_X12_token_114 g0 ?_
  refine ex_al oq_X12_token_115 g0 ?_
  refine ex_al oq_X12_token_116 g0 ?_
  obtain ⟨x301, ax301, rx301, lx301, ux301⟩ := fi_at hT
  refine ex_gf oq_X12_token_117 hT (k := 111) (d := 12) rfl rfl ax301 ?_
  refine ex_al oq_X12_token_120 g0 ?_
  obtain ⟨x302, ax302, rx302, lx302, ux302⟩ := fi_next hT
  refine ex_gf oq_X12_token_121 hT (k := 111) (d := 12) rfl rfl ax302 ?_
  refine ex_cv oq_X12_token_124 (by decide) hT (k := 111) (d := 12) (as := [cv_i x301, cv_i x302]) (stk := [cv_r 111]) rfl rfl rfl rfl rfl rfl ⟨rfl, rfl⟩ (R := fun o => ∃ x : Int32, o = (some (cv_i x), h) ∧ x.toInt = tz_word t a e) (rt_wordAt (t := t) (n := n) (a := a) (b := e) (fun i hi => by rw [ht i hi, ← hA _ Fh]) (fun i hi => by rw [hB _ Fh]; exact hwr i hi) hT hn9 (by omega) (by omega) (by omega) (by omega) hlet (fun x q => ⟨x, rfl, q⟩)) (fun o ho => ?_)
  obtain ⟨x303, rfl, wx303⟩ := ho
  show cw_X _ _ _ _ _ [cv_i x303, cv_r 111] h
  refine ex_pfi oq_X12_token_127 hT (k := 111) (d := 12) rfl rfl rfl (cw_i32 _).1 (cw_i32 _).2 (fun h304 Th304 wh304 => ?_)
  have Fh304 : cw_Fr cw_Ds cw_sh kk_X12_token.2.2.2.2.2.1 h0 h304 := cw_Fr_tr Fh (cw_Fr_wrf wh304 (k := 111) (d := 12) rfl rfl (by decide +kernel))
  have eh304_6 : ri_at h304 111 6 = ri_at h 111 6 := ri_ne wh304 (by decide)
  have eh304_7 : ri_at h304 111 7 = ri_at h 111 7 := ri_ne wh304 (by decide)
  have eh304_8 : ri_at h304 111 8 = ri_at h 111 8 := ri_ne wh304 (by decide)
  have eh304_9 : ri_at h304 111 9 = x303.toInt := ri_self wh304
  have eh304_10 : ri_at h304 111 10 = ri_at h 111 10 := ri_ne wh304 (by decide)
  refine ex_al oq_X12_token_130 g0 ?_
  refine ex_al oq_X12_token_131 g0 ?_
  obtain ⟨x305, ax305, rx305, lx305, ux305⟩ := fi_which Th304
  refine ex_gf oq_X12_token_132 Th304 (k := 111) (d := 12) rfl rfl ax305 ?_
  refine ex_if0 oq_X12_token_135 (t := 142) rfl rfl (fun (c306 : x305.toInt < 0) => ?_) (fun (c306 : ¬ (x305.toInt < 0)) => ?_)
  · refine ex_al oq_X12_token_142 g0 ?_
    obtain ⟨x307, ax307, rx307, lx307, ux307⟩ := fi_next Th304
    refine ex_gf oq_X12_token_143 Th304 (k := 111) (d := 12) rfl rfl ax307 ?_
    refine ex_al oq_X12_token_146 g0 ?_
    obtain ⟨x308, ax308, rx308, lx308, ux308⟩ := fi_at Th304
    refine ex_gf oq_X12_token_147 Th304 (k := 111) (d := 12) rfl rfl ax308 ?_
    refine ex_sub oq_X12_token_150 (by omega) (fun x309 hx309 => ?_)
    refine ex_bi oq_X12_token_151 (m := 6) (by decide) (fun x310 hx310 => ?_)
    refine ex_if oq_X12_token_153 (t := 161) rfl rfl (fun (c311 : x309.toInt ≤ x310.toInt) => ?_) (fun (c311 : ¬ (x309.toInt ≤ x310.toInt)) => ?_)
    · refine ex_ic oq_X12_token_161 (m := 2) (by decide) (fun x312 hx312 => ?_)
      refine ex_pfi oq_X12_token_162 Th304 (k := 111) (d := 12) rfl rfl rfl (by omega) (by omega) (fun h313 Th313 wh313 => ?_)
      have Fh313 : cw_Fr cw_Ds cw_sh kk_X12_token.2.2.2.2.2.1 h0 h313 := cw_Fr_tr Fh304 (cw_Fr_wrf wh313 (k := 111) (d := 12) rfl rfl (by decide +kernel))
      have eh313_6 : ri_at h313 111 6 = ri_at h304 111 6 := ri_ne wh313 (by decide)
      have eh313_7 : ri_at h313 111 7 = ri_at h304 111 7 := ri_ne wh313 (by decide)
      have eh313_8 : ri_at h313 111 8 = x312.toInt := ri_self wh313
      have eh313_9 : ri_at h313 111 9 = ri_at h304 111 9 := ri_ne wh313 (by decide)
      have eh313_10 : ri_at h313 111 10 = ri_at h304 111 10 := ri_ne wh313 (by decide)
      refine ex_al oq_X12_token_165 g0 ?_
      obtain ⟨x314, ax314, rx314, lx314, ux314⟩ := fi_kind Th313
      refine ex_gf oq_X12_token_166 Th313 (k := 111) (d := 12) rfl rfl ax314 ?_
      refine ex_ic oq_X12_token_169 (m := 2) (by decide) (fun x315 hx315 => ?_)
      refine ex_if oq_X12_token_170 (t := 282) rfl rfl (fun (c316 : ¬ x314.toInt = x315.toInt) => ?_) (fun (c316 : ¬ (¬ x314.toInt = x315.toInt)) => ?_)
      · exfalso; omega
      · refine ex_al oq_X12_token_173 g0 ?_
        refine ex_al oq_X12_token_174 g0 ?_
        refine ex_al oq_X12_token_175 g0 ?_
        obtain ⟨x317, ax317, rx317, lx317, ux317⟩ := fi_at Th313
        refine ex_gf oq_X12_token_176 Th313 (k := 111) (d := 12) rfl rfl ax317 ?_
        refine ex_al oq_X12_token_179 g0 ?_
        obtain ⟨x318, ax318, rx318, lx318, ux318⟩ := fi_next Th313
        refine ex_gf oq_X12_token_180 Th313 (k := 111) (d := 12) rfl rfl ax318 ?_
        refine ex_cv oq_X12_token_183 (by decide) Th313 (k := 111) (d := 12) (as := [cv_i x317, cv_i x318]) (stk := [cv_r 111]) rfl rfl rfl rfl rfl rfl ⟨rfl, rfl⟩ (R := fun o => ∃ x : Int32, o = (some (cv_i x), h313) ∧ x.toInt = tz_pk t a e) (rt_packed (t := t) (n := n) (a := a) (b := e) (fun i hi => by rw [ht i hi, ← hA _ Fh313]) Th313 hn9 (by omega) (by omega) (by omega) (by omega) hlet (fun x q => ⟨x, rfl, q⟩)) (fun o ho => ?_)
        obtain ⟨x319, rfl, wx319⟩ := ho
        show cw_X _ _ _ _ _ [cv_i x319, cv_r 111] h313
        refine ex_pfi oq_X12_token_186 Th313 (k := 111) (d := 12) rfl rfl rfl (cw_i32 _).1 (cw_i32 _).2 (fun h320 Th320 wh320 => ?_)
        have Fh320 : cw_Fr cw_Ds cw_sh kk_X12_token.2.2.2.2.2.1 h0 h320 := cw_Fr_tr Fh313 (cw_Fr_wrf wh320 (k := 111) (d := 12) rfl rfl (by decide +kernel))
        have eh320_6 : ri_at h320 111 6 = ri_at h313 111 6 := ri_ne wh320 (by decide)
        have eh320_7 : ri_at h320 111 7 = ri_at h313 111 7 := ri_ne wh320 (by decide)
        have eh320_8 : ri_at h320 111 8 = ri_at h313 111 8 := ri_ne wh320 (by decide)
        have eh320_9 : ri_at h320 111 9 = x319.toInt := ri_self wh320
        have eh320_10 : ri_at h320 111 10 = ri_at h313 111 10 := ri_ne wh320 (by decide)
        refine ex_go oq_X12_token_189 (t := 282) rfl rfl ?_
        first | (exfalso; omega) | exact ex_retv oq_X12_token_282 rfl (hF h320 Th320 Fh320 (by omega) (by omega) (by rw [tz_e2 han hla he (by omega) (by omega)]; dsimp only; omega) (by rw [tz_e2 han hla he (by omega) (by omega)]; dsimp only; omega) (by rw [tz_e2 han hla he (by omega) (by omega)]; dsimp only; omega))
    · refine ex_bi oq_X12_token_156 (m := 6) (by decide) (fun x321 hx321 => ?_)
      refine ex_go oq_X12_token_158 (t := 162) rfl rfl ?_
      refine ex_pfi oq_X12_token_162 Th304 (k := 111) (d := 12) rfl rfl rfl (by omega) (by omega) (fun h322 Th322 wh322 => ?_)
      have Fh322 : cw_Fr cw_Ds cw_sh kk_X12_token.2.2.2.2.2.1 h0 h322 := cw_Fr_tr Fh304 (cw_Fr_wrf wh322 (k := 111) (d := 12) rfl rfl (by decide +kernel))
      have eh322_6 : ri_at h322 111 6 = ri_at h304 111 6 := ri_ne wh322 (by decide)
      have eh322_7 : ri_at h322 111 7 = ri_at h304 111 7 := ri_ne wh322 (by decide)
      have eh322_8 : ri_at h322 111 8 = x321.toInt := ri_self wh322
      have eh322_9 : ri_at h322 111 9 = ri_at h304 111 9 := ri_ne wh322 (by decide)
      have eh322_10 : ri_at h322 111 10 = ri_at h304 111 10 := ri_ne wh322 (by decide)
      refine ex_al oq_X12_token_165 g0 ?_
      obtain ⟨x323, ax323, rx323, lx323, ux323⟩ := fi_kind Th322
      refine ex_gf oq_X12_token_166 Th322 (k := 111) (d := 12) rfl rfl ax323 ?_
      refine ex_ic oq_X12_token_169 (m := 2) (by decide) (fun x324 hx324 => ?_)
      refine ex_if oq_X12_token_170 (t := 282) rfl rfl (fun (c325 : ¬ x323.toInt = x324.toInt) => ?_) (fun (c325 : ¬ (¬ x323.toInt = x324.toInt)) => ?_)
      · first | (exfalso; omega) | exact ex_retv oq_X12_token_282 rfl (hF h322 Th322 Fh322 (by omega) (by omega) (by rw [tz_e6 han hla he (by omega) (by omega)]; dsimp only; omega) (by rw [tz_e6 han hla he (by omega) (by omega)]; dsimp only; omega) (by rw [tz_e6 han hla he (by omega) (by omega)]; dsimp only; omega))
      · exfalso; omega
  · refine ex_ic oq_X12_token_138 (m := 1) (by decide) (fun x326 hx326 => ?_)
    refine ex_go oq_X12_token_139 (t := 162) rfl rfl ?_
    refine ex_pfi oq_X12_token_162 Th304 (k := 111) (d := 12) rfl rfl rfl (by omega) (by omega) (fun h327 Th327 wh327 => ?_)
    have Fh327 : cw_Fr cw_Ds cw_sh kk_X12_token.2.2.2.2.2.1 h0 h327 := cw_Fr_tr Fh304 (cw_Fr_wrf wh327 (k := 111) (d := 12) rfl rfl (by decide +kernel))
    have eh327_6 : ri_at h327 111 6 = ri_at h304 111 6 := ri_ne wh327 (by decide)
    have eh327_7 : ri_at h327 111 7 = ri_at h304 111 7 := ri_ne wh327 (by decide)
    have eh327_8 : ri_at h327 111 8 = x326.toInt := ri_self wh327
    have eh327_9 : ri_at h327 111 9 = ri_at h304 111 9 := ri_ne wh327 (by decide)
    have eh327_10 : ri_at h327 111 10 = ri_at h304 111 10 := ri_ne wh327 (by decide)
    refine ex_al oq_X12_token_165 g0 ?_
    obtain ⟨x328, ax328, rx328, lx328, ux328⟩ := fi_kind Th327
    refine ex_gf oq_X12_token_166 Th327 (k := 111) (d := 12) rfl rfl ax328 ?_
    refine ex_ic oq_X12_token_169 (m := 2) (by decide) (fun x329 hx329 => ?_)
    refine ex_if oq_X12_token_170 (t := 282) rfl rfl (fun (c330 : ¬ x328.toInt = x329.toInt) => ?_) (fun (c330 : ¬ (¬ x328.toInt = x329.toInt)) => ?_)
    · first | (exfalso; omega) | exact ex_retv oq_X12_token_282 rfl (hF h327 Th327 Fh327 (by omega) (by omega) (by rw [tz_e1 han hla he (by omega)]; dsimp only; omega) (by rw [tz_e1 han hla he (by omega)]; dsimp only; omega) (by rw [tz_e1 han hla he (by omega)]; dsimp only; omega))
    · exfalso; omega
theorem tz_num1 {t : Nat → Int} {a k : Nat} : tz_num t a (k + 1) = if 9999 < tz_num t a k then tz_num t a k else 10 * tz_num t a k + (t (a + k) - 48) := rfl
theorem rt_digits {h0 : cv_H} {n a : Nat} (ht : ∀ i, i < n → t i = ri_at h0 112 i) (hn9 : n ≤ 900) (han : a < n) (hlf : tz_l t a = false) (hdt : tz_d t a = true) (hF : ∀ h', cw_T G h' → cw_Fr cw_Ds cw_sh kk_X12_token.2.2.2.2.2.1 h0 h' → ri_at h' 111 6 = n → ri_at h' 111 10 = a → ri_at h' 111 7 = (tz_tk t n a).2.2 → ri_at h' 111 8 = (tz_tk t n a).1 → ((tz_tk t n a).1 ≠ 0 → (tz_tk t n a).1 ≠ 6 → ri_at h' 111 9 = (tz_tk t n a).2.1) → Q (none, h')) {L : cv_L} (g0 : cv_get L 0 = some (cv_r 111)) :
    ∀ (f k : Nat) (h : cv_H), n - (a + k) = f → cw_T G h → cw_Fr cw_Ds cw_sh kk_X12_token.2.2.2.2.2.1 h0 h → ri_at h 111 6 = n → a + k ≤ n → ri_at h 111 7 = ((a + k : Nat) : Int) → ri_at h 111 10 = a → ri_at h 111 8 = 3 → tz_to (tz_d t) n (a + k) = tz_to (tz_d t) n a → ri_at h 111 9 = tz_num t a k → (0 ≤ tz_num t a k ∧ tz_num t a k ≤ 99999) → cw_X X 163 Q 213 L [] h := by
  have hA : ∀ h, cw_Fr cw_Ds cw_sh kk_X12_token.2.2.2.2.2.1 h0 h → ∀ i, ri_at h 112 i = ri_at h0 112 i := fun h F i => ri_frr F (k := 112) (d := 51) rfl rfl (by decide +kernel)
  intro f
  induction f with
  | zero =>
    intro k h hf hT Fh hs hkn hx hat hkd hst hnum hnb
    refine ex_al oq_X12_token_213 g0 ?_
    refine ex_al oq_X12_token_214 g0 ?_
    obtain ⟨x501, ax501, rx501, lx501, ux501⟩ := fi_next hT
    refine ex_gf oq_X12_token_215 hT (k := 111) (d := 12) rfl rfl ax501 ?_
    refine ex_cv oq_X12_token_218 (by decide) hT (k := 111) (d := 12) (as := [cv_i x501]) (stk := []) rfl rfl rfl rfl rfl rfl ⟨rfl, rfl⟩ (R := fun o => ∃ x : Int32, o = (some (cv_i x), h) ∧ (x.toInt = 1 ∧ a + k < n ∧ tz_d t (a + k) = true ∨ x.toInt = 0 ∧ (a + k < n → tz_d t (a + k) = false))) (rt_isDigit (t := t) (n := n) (i := a + k) (fun i hi => by rw [ht i hi, ← hA _ Fh]) hT hn9 (by omega) (by omega) (fun x q => ⟨x, rfl, q⟩)) (fun o ho => ?_)
    obtain ⟨x502, rfl, dx502⟩ := ho
    show cw_X _ _ _ _ _ [cv_i x502] h
    refine ex_if0 oq_X12_token_221 (t := 282) rfl rfl (fun (c503 : x502.toInt = 0) => ?_) (fun (c503 : ¬ (x502.toInt = 0)) => ?_)
    · have yx502 := tz_no dx502 c503
      clear dx502
      have hk : tz_to (tz_d t) n a = a + k := by rw [← hst]; exact tz_to_stop (c := tz_d t) (n := n) (p := a + k) yx502
      have e := tz_kd han hlf hdt
      rw [hk, show a + k - a = k from by omega] at e
      exact ex_retv oq_X12_token_282 rfl (hF h hT Fh (by omega) (by omega) (by rw [e]; dsimp only; omega) (by rw [e]; dsimp only; omega) (by rw [e]; dsimp only; omega))
    · have yx502 := tz_yes dx502 c503
      clear dx502
      have zzx502 := yx502.1
      exfalso; omega
  | succ f ih =>
    intro k h hf hT Fh hs hkn hx hat hkd hst hnum hnb
    refine ex_al oq_X12_token_213 g0 ?_
    refine ex_al oq_X12_token_214 g0 ?_
    obtain ⟨x501, ax501, rx501, lx501, ux501⟩ := fi_next hT
    refine ex_gf oq_X12_token_215 hT (k := 111) (d := 12) rfl rfl ax501 ?_
    refine ex_cv oq_X12_token_218 (by decide) hT (k := 111) (d := 12) (as := [cv_i x501]) (stk := []) rfl rfl rfl rfl rfl rfl ⟨rfl, rfl⟩ (R := fun o => ∃ x : Int32, o = (some (cv_i x), h) ∧ (x.toInt = 1 ∧ a + k < n ∧ tz_d t (a + k) = true ∨ x.toInt = 0 ∧ (a + k < n → tz_d t (a + k) = false))) (rt_isDigit (t := t) (n := n) (i := a + k) (fun i hi => by rw [ht i hi, ← hA _ Fh]) hT hn9 (by omega) (by omega) (fun x q => ⟨x, rfl, q⟩)) (fun o ho => ?_)
    obtain ⟨x502, rfl, dx502⟩ := ho
    show cw_X _ _ _ _ _ [cv_i x502] h
    refine ex_if0 oq_X12_token_221 (t := 282) rfl rfl (fun (c503 : x502.toInt = 0) => ?_) (fun (c503 : ¬ (x502.toInt = 0)) => ?_)
    · have yx502 := tz_no dx502 c503
      clear dx502
      have hk : tz_to (tz_d t) n a = a + k := by rw [← hst]; exact tz_to_stop (c := tz_d t) (n := n) (p := a + k) yx502
      have e := tz_kd han hlf hdt
      rw [hk, show a + k - a = k from by omega] at e
      exact ex_retv oq_X12_token_282 rfl (hF h hT Fh (by omega) (by omega) (by rw [e]; dsimp only; omega) (by rw [e]; dsimp only; omega) (by rw [e]; dsimp only; omega))
    · have yx502 := tz_yes dx502 c503
      clear dx502
      have zx502 := tz_d_e yx502.2
      have zzx502 := yx502.1
      refine ex_al oq_X12_token_224 g0 ?_
      refine ex_al oq_X12_token_225 g0 ?_
      obtain ⟨x504, ax504, rx504, lx504, ux504⟩ := fi_which hT
      refine ex_gf oq_X12_token_226 hT (k := 111) (d := 12) rfl rfl ax504 ?_
      refine ex_si oq_X12_token_229 (m := 9999) (by decide) (fun x505 hx505 => ?_)
      refine ex_if oq_X12_token_232 (t := 242) rfl rfl (fun (c506 : x504.toInt ≤ x505.toInt) => ?_) (fun (c506 : ¬ (x504.toInt ≤ x505.toInt)) => ?_)
      · refine ex_bi oq_X12_token_242 (m := 10) (by decide) (fun x507 hx507 => ?_)
        refine ex_al oq_X12_token_244 g0 ?_
        obtain ⟨x508, ax508, rx508, lx508, ux508⟩ := fi_which hT
        refine ex_gf oq_X12_token_245 hT (k := 111) (d := 12) rfl rfl ax508 ?_
        refine ex_mul oq_X12_token_248 (m := 10 * x508.toInt) (by rw [hx507]) (by omega) (fun x509 hx509 => ?_)
        refine ex_al oq_X12_token_249 g0 ?_
        refine ex_gf oq_X12_token_250 hT (k := 111) (d := 12) rfl rfl (fr_tape hT) ?_
        refine ex_al oq_X12_token_253 g0 ?_
        obtain ⟨x510, ax510, rx510, lx510, ux510⟩ := fi_next hT
        refine ex_gf oq_X12_token_254 hT (k := 111) (d := 12) rfl rfl ax510 ?_
        refine ex_ia1 oq_X12_token_257 hT (k := 112) (d := 51) (j := a + k) rfl rfl (by omega) (by omega) (fun x511 hx511 lx511 ux511 => ?_)
        have tx511 : t (a + k) = x511.toInt := by rw [ht (a + k) (by omega), ← hA _ Fh, hx511]
        refine ex_add oq_X12_token_258 (by omega) (fun x512 hx512 => ?_)
        refine ex_bi oq_X12_token_259 (m := 48) (by decide) (fun x513 hx513 => ?_)
        refine ex_sub oq_X12_token_261 (by omega) (fun x514 hx514 => ?_)
        refine ex_pfi oq_X12_token_262 hT (k := 111) (d := 12) rfl rfl rfl (cw_i32 _).1 (cw_i32 _).2 (fun h515 Th515 wh515 => ?_)
        have Fh515 : cw_Fr cw_Ds cw_sh kk_X12_token.2.2.2.2.2.1 h0 h515 := cw_Fr_tr Fh (cw_Fr_wrf wh515 (k := 111) (d := 12) rfl rfl (by decide +kernel))
        have eh515_6 : ri_at h515 111 6 = ri_at h 111 6 := ri_ne wh515 (by decide)
        have eh515_7 : ri_at h515 111 7 = ri_at h 111 7 := ri_ne wh515 (by decide)
        have eh515_8 : ri_at h515 111 8 = ri_at h 111 8 := ri_ne wh515 (by decide)
        have eh515_9 : ri_at h515 111 9 = x514.toInt := ri_self wh515
        have eh515_10 : ri_at h515 111 10 = ri_at h 111 10 := ri_ne wh515 (by decide)
        refine ex_al oq_X12_token_265 g0 ?_
        refine ex_dup oq_X12_token_266 rfl ?_
        obtain ⟨x516, ax516, rx516, lx516, ux516⟩ := fi_next Th515
        refine ex_gf oq_X12_token_267 Th515 (k := 111) (d := 12) rfl rfl ax516 ?_
        refine ex_ic oq_X12_token_270 (m := 1) (by decide) (fun x517 hx517 => ?_)
        refine ex_add oq_X12_token_271 (by omega) (fun x518 hx518 => ?_)
        refine ex_pfi oq_X12_token_272 Th515 (k := 111) (d := 12) rfl rfl rfl (by omega) (by omega) (fun h519 Th519 wh519 => ?_)
        have Fh519 : cw_Fr cw_Ds cw_sh kk_X12_token.2.2.2.2.2.1 h0 h519 := cw_Fr_tr Fh515 (cw_Fr_wrf wh519 (k := 111) (d := 12) rfl rfl (by decide +kernel))
        have eh519_6 : ri_at h519 111 6 = ri_at h515 111 6 := ri_ne wh519 (by decide)
        have eh519_7 : ri_at h519 111 7 = x518.toInt := ri_self wh519
        have eh519_8 : ri_at h519 111 8 = ri_at h515 111 8 := ri_ne wh519 (by decide)
        have eh519_9 : ri_at h519 111 9 = ri_at h515 111 9 := ri_ne wh519 (by decide)
        have eh519_10 : ri_at h519 111 10 = ri_at h515 111 10 := ri_ne wh519 (by decide)
        refine ex_go oq_X12_token_275 (t := 213) rfl rfl ?_
        exact ih (k + 1) h519 (by omega) Th519 Fh519 (by omega) (by omega) (by omega) (by omega) (by omega) (by rw [← hst]; exact (tz_to_step (c := tz_d t) (p := a + k) yx502.1 yx502.2).symm) (by rw [tz_num1]; split <;> omega) (by rw [tz_num1]; split <;> omega)
      · refine ex_al oq_X12_token_235 g0 ?_
        obtain ⟨x520, ax520, rx520, lx520, ux520⟩ := fi_which hT
        refine ex_gf oq_X12_token_236 hT (k := 111) (d := 12) rfl rfl ax520 ?_
        refine ex_go oq_X12_token_239 (t := 262) rfl rfl ?_
        refine ex_pfi oq_X12_token_262 hT (k := 111) (d := 12) rfl rfl rfl (cw_i32 _).1 (cw_i32 _).2 (fun h521 Th521 wh521 => ?_)
        have Fh521 : cw_Fr cw_Ds cw_sh kk_X12_token.2.2.2.2.2.1 h0 h521 := cw_Fr_tr Fh (cw_Fr_wrf wh521 (k := 111) (d := 12) rfl rfl (by decide +kernel))
        have eh521_6 : ri_at h521 111 6 = ri_at h 111 6 := ri_ne wh521 (by decide)
        have eh521_7 : ri_at h521 111 7 = ri_at h 111 7 := ri_ne wh521 (by decide)
        have eh521_8 : ri_at h521 111 8 = ri_at h 111 8 := ri_ne wh521 (by decide)
        have eh521_9 : ri_at h521 111 9 = x520.toInt := ri_self wh521
        have eh521_10 : ri_at h521 111 10 = ri_at h 111 10 := ri_ne wh521 (by decide)
        refine ex_al oq_X12_token_265 g0 ?_
        refine ex_dup oq_X12_token_266 rfl ?_
        obtain ⟨x522, ax522, rx522, lx522, ux522⟩ := fi_next Th521
        refine ex_gf oq_X12_token_267 Th521 (k := 111) (d := 12) rfl rfl ax522 ?_
        refine ex_ic oq_X12_token_270 (m := 1) (by decide) (fun x523 hx523 => ?_)
        refine ex_add oq_X12_token_271 (by omega) (fun x524 hx524 => ?_)
        refine ex_pfi oq_X12_token_272 Th521 (k := 111) (d := 12) rfl rfl rfl (by omega) (by omega) (fun h525 Th525 wh525 => ?_)
        have Fh525 : cw_Fr cw_Ds cw_sh kk_X12_token.2.2.2.2.2.1 h0 h525 := cw_Fr_tr Fh521 (cw_Fr_wrf wh525 (k := 111) (d := 12) rfl rfl (by decide +kernel))
        have eh525_6 : ri_at h525 111 6 = ri_at h521 111 6 := ri_ne wh525 (by decide)
        have eh525_7 : ri_at h525 111 7 = x524.toInt := ri_self wh525
        have eh525_8 : ri_at h525 111 8 = ri_at h521 111 8 := ri_ne wh525 (by decide)
        have eh525_9 : ri_at h525 111 9 = ri_at h521 111 9 := ri_ne wh525 (by decide)
        have eh525_10 : ri_at h525 111 10 = ri_at h521 111 10 := ri_ne wh525 (by decide)
        refine ex_go oq_X12_token_275 (t := 213) rfl rfl ?_
        exact ih (k + 1) h525 (by omega) Th525 Fh525 (by omega) (by omega) (by omega) (by omega) (by omega) (by rw [← hst]; exact (tz_to_step (c := tz_d t) (p := a + k) yx502.1 yx502.2).symm) (by rw [tz_num1]; split <;> omega) (by rw [tz_num1]; split <;> omega)
theorem rt_52 {h0 : cv_H} {n a : Nat} (ht : ∀ i, i < n → t i = ri_at h0 112 i) (hn9 : n ≤ 900) (hwr : ∀ i, i < 177 → ri_at h0 113 i = pp_words.getD i 0) (han : a ≤ n) (hF : ∀ h', cw_T G h' → cw_Fr cw_Ds cw_sh kk_X12_token.2.2.2.2.2.1 h0 h' → ri_at h' 111 6 = n → ri_at h' 111 10 = a → ri_at h' 111 7 = (tz_tk t n a).2.2 → ri_at h' 111 8 = (tz_tk t n a).1 → ((tz_tk t n a).1 ≠ 0 → (tz_tk t n a).1 ≠ 6 → ri_at h' 111 9 = (tz_tk t n a).2.1) → Q (none, h'))
    {L : cv_L} {h : cv_H} (g0 : cv_get L 0 = some (cv_r 111)) (hT : cw_T G h) (Fh : cw_Fr cw_Ds cw_sh kk_X12_token.2.2.2.2.2.1 h0 h) (hs : ri_at h 111 6 = n) (hx : ri_at h 111 7 = a) : cw_X X 163 Q 52 L [] h := by
  have hA : ∀ h, cw_Fr cw_Ds cw_sh kk_X12_token.2.2.2.2.2.1 h0 h → ∀ i, ri_at h 112 i = ri_at h0 112 i := fun h F i => ri_frr F (k := 112) (d := 51) rfl rfl (by decide +kernel)
  refine ex_al oq_X12_token_52 g0 ?_
  refine ex_al oq_X12_token_53 g0 ?_
  obtain ⟨x701, ax701, rx701, lx701, ux701⟩ := fi_next hT
  refine ex_gf oq_X12_token_54 hT (k := 111) (d := 12) rfl rfl ax701 ?_
  refine ex_pfi oq_X12_token_57 hT (k := 111) (d := 12) rfl rfl rfl (by omega) (by omega) (fun h702 Th702 wh702 => ?_)
  have Fh702 : cw_Fr cw_Ds cw_sh kk_X12_token.2.2.2.2.2.1 h0 h702 := cw_Fr_tr Fh (cw_Fr_wrf wh702 (k := 111) (d := 12) rfl rfl (by decide +kernel))
  have eh702_6 : ri_at h702 111 6 = ri_at h 111 6 := ri_ne wh702 (by decide)
  have eh702_7 : ri_at h702 111 7 = ri_at h 111 7 := ri_ne wh702 (by decide)
  have eh702_8 : ri_at h702 111 8 = ri_at h 111 8 := ri_ne wh702 (by decide)
  have eh702_9 : ri_at h702 111 9 = ri_at h 111 9 := ri_ne wh702 (by decide)
  have eh702_10 : ri_at h702 111 10 = x701.toInt := ri_self wh702
  refine ex_al oq_X12_token_60 g0 ?_
  obtain ⟨x703, ax703, rx703, lx703, ux703⟩ := fi_next Th702
  refine ex_gf oq_X12_token_61 Th702 (k := 111) (d := 12) rfl rfl ax703 ?_
  refine ex_al oq_X12_token_64 g0 ?_
  obtain ⟨x704, ax704, rx704, lx704, ux704⟩ := fi_stop Th702
  refine ex_gf oq_X12_token_65 Th702 (k := 111) (d := 12) rfl rfl ax704 ?_
  refine ex_if oq_X12_token_68 (t := 79) rfl rfl (fun (c705 : ¬ x703.toInt = x704.toInt) => ?_) (fun (c705 : ¬ (¬ x703.toInt = x704.toInt)) => ?_)
  · refine ex_al oq_X12_token_79 g0 ?_
    refine ex_al oq_X12_token_80 g0 ?_
    obtain ⟨x706, ax706, rx706, lx706, ux706⟩ := fi_next Th702
    refine ex_gf oq_X12_token_81 Th702 (k := 111) (d := 12) rfl rfl ax706 ?_
    refine ex_cv oq_X12_token_84 (by decide) Th702 (k := 111) (d := 12) (as := [cv_i x706]) (stk := []) rfl rfl rfl rfl rfl rfl ⟨rfl, rfl⟩ (R := fun o => ∃ x : Int32, o = (some (cv_i x), h702) ∧ (x.toInt = 1 ∧ a < n ∧ tz_l t (a) = true ∨ x.toInt = 0 ∧ (a < n → tz_l t (a) = false))) (rt_isSmall (t := t) (n := n) (i := a) (fun i hi => by rw [ht i hi, ← hA _ Fh702]) Th702 hn9 (by omega) (by omega) (fun x q => ⟨x, rfl, q⟩)) (fun o ho => ?_)
    obtain ⟨x707, rfl, dx707⟩ := ho
    show cw_X _ _ _ _ _ [cv_i x707] h702
    refine ex_if0 oq_X12_token_87 (t := 192) rfl rfl (fun (c708 : x707.toInt = 0) => ?_) (fun (c708 : ¬ (x707.toInt = 0)) => ?_)
    · have yx707 := tz_no dx707 c708
      clear dx707
      refine ex_al oq_X12_token_192 g0 ?_
      refine ex_al oq_X12_token_193 g0 ?_
      obtain ⟨x709, ax709, rx709, lx709, ux709⟩ := fi_next Th702
      refine ex_gf oq_X12_token_194 Th702 (k := 111) (d := 12) rfl rfl ax709 ?_
      refine ex_cv oq_X12_token_197 (by decide) Th702 (k := 111) (d := 12) (as := [cv_i x709]) (stk := []) rfl rfl rfl rfl rfl rfl ⟨rfl, rfl⟩ (R := fun o => ∃ x : Int32, o = (some (cv_i x), h702) ∧ (x.toInt = 1 ∧ a < n ∧ tz_d t (a) = true ∨ x.toInt = 0 ∧ (a < n → tz_d t (a) = false))) (rt_isDigit (t := t) (n := n) (i := a) (fun i hi => by rw [ht i hi, ← hA _ Fh702]) Th702 hn9 (by omega) (by omega) (fun x q => ⟨x, rfl, q⟩)) (fun o ho => ?_)
      obtain ⟨x710, rfl, dx710⟩ := ho
      show cw_X _ _ _ _ _ [cv_i x710] h702
      refine ex_if0 oq_X12_token_200 (t := 278) rfl rfl (fun (c711 : x710.toInt = 0) => ?_) (fun (c711 : ¬ (x710.toInt = 0)) => ?_)
      · have yx710 := tz_no dx710 c711
        clear dx710
        refine ex_al oq_X12_token_278 g0 ?_
        refine ex_cv oq_X12_token_279 (by decide) Th702 (k := 111) (d := 12) (as := []) (stk := []) rfl rfl rfl rfl rfl rfl ⟨rfl, rfl⟩ (R := fun o => ∃ hb : cv_H, o = (none, hb) ∧ cw_T G hb ∧ cw_Fr cw_Ds cw_sh kk_X12_signToken.2.2.2.2.2.1 h702 hb ∧ ri_at hb 111 6 = n ∧ ri_at hb 111 10 = ri_at h702 111 10 ∧ ri_at hb 111 7 = (tz_s t n a).2.2 ∧ ri_at hb 111 8 = (tz_s t n a).1 ∧ ((tz_s t n a).1 ≠ 6 → ri_at hb 111 9 = (tz_s t n a).2.1)) (rt_signToken (t := t) (n := n) (a := a) (fun i hi => by rw [ht i hi, ← hA _ Fh702]) Th702 hn9 (by omega) (by omega) (by omega) (fun hb b1 b2 b3 b4 b5 b6 b7 => ⟨hb, rfl, b1, b2, b3, b4, b5, b6, b7⟩)) (fun o ho => ?_)
        obtain ⟨h712, rfl, Th712, Ch712, ih712, jh712, kh712, lh712, mh712⟩ := ho
        show cw_X _ _ _ _ _ [] h712
        have Fh712 : cw_Fr cw_Ds cw_sh kk_X12_token.2.2.2.2.2.1 h0 h712 := cw_Fr_tr Fh702 (cw_Fr_mono (by decide +kernel) Ch712)
        have e := tz_ks (t := t) (n := n) (a := a) (by omega) (yx707 (by omega)) (yx710 (by omega))
        exact ex_retv oq_X12_token_282 rfl (hF h712 Th712 Fh712 ih712 (by omega) (by rw [e]; exact kh712) (by rw [e]; exact lh712) (by rw [e]; exact fun _ => mh712))
      · have yx710 := tz_yes dx710 c711
        clear dx710
        refine ex_al oq_X12_token_203 g0 ?_
        refine ex_ic oq_X12_token_204 (m := 3) (by decide) (fun x713 hx713 => ?_)
        refine ex_pfi oq_X12_token_205 Th702 (k := 111) (d := 12) rfl rfl rfl (by omega) (by omega) (fun h714 Th714 wh714 => ?_)
        have Fh714 : cw_Fr cw_Ds cw_sh kk_X12_token.2.2.2.2.2.1 h0 h714 := cw_Fr_tr Fh702 (cw_Fr_wrf wh714 (k := 111) (d := 12) rfl rfl (by decide +kernel))
        have eh714_6 : ri_at h714 111 6 = ri_at h702 111 6 := ri_ne wh714 (by decide)
        have eh714_7 : ri_at h714 111 7 = ri_at h702 111 7 := ri_ne wh714 (by decide)
        have eh714_8 : ri_at h714 111 8 = x713.toInt := ri_self wh714
        have eh714_9 : ri_at h714 111 9 = ri_at h702 111 9 := ri_ne wh714 (by decide)
        have eh714_10 : ri_at h714 111 10 = ri_at h702 111 10 := ri_ne wh714 (by decide)
        refine ex_al oq_X12_token_208 g0 ?_
        refine ex_ic oq_X12_token_209 (m := 0) (by decide) (fun x715 hx715 => ?_)
        refine ex_pfi oq_X12_token_210 Th714 (k := 111) (d := 12) rfl rfl rfl (cw_i32 _).1 (cw_i32 _).2 (fun h716 Th716 wh716 => ?_)
        have Fh716 : cw_Fr cw_Ds cw_sh kk_X12_token.2.2.2.2.2.1 h0 h716 := cw_Fr_tr Fh714 (cw_Fr_wrf wh716 (k := 111) (d := 12) rfl rfl (by decide +kernel))
        have eh716_6 : ri_at h716 111 6 = ri_at h714 111 6 := ri_ne wh716 (by decide)
        have eh716_7 : ri_at h716 111 7 = ri_at h714 111 7 := ri_ne wh716 (by decide)
        have eh716_8 : ri_at h716 111 8 = ri_at h714 111 8 := ri_ne wh716 (by decide)
        have eh716_9 : ri_at h716 111 9 = x715.toInt := ri_self wh716
        have eh716_10 : ri_at h716 111 10 = ri_at h714 111 10 := ri_ne wh716 (by decide)
        exact rt_digits (t := t) (n := n) (a := a) ht hn9 yx710.1 (yx707 yx710.1) yx710.2 hF g0 (n - a) 0 h716 (by omega) Th716 Fh716 (by omega) (by omega) (by omega) (by omega) (by omega) rfl (by show _ = (0 : Int); omega) (by show (0 : Int) ≤ 0 ∧ (0 : Int) ≤ 99999; decide)
    · have yx707 := tz_yes dx707 c708
      clear dx707
      exact rt_letters (t := t) (n := n) (a := a) ht hn9 g0 (fun h b1 b2 b3 b4 b5 => rt_114 (t := t) ht hn9 hwr yx707.1 yx707.2 rfl hF g0 b1 b2 b3 b4 b5) (n - a) a h702 (by omega) Th702 Fh702 (by omega) (by omega) (by omega) (by omega) rfl
  · refine ex_al oq_X12_token_71 g0 ?_
    refine ex_ic oq_X12_token_72 (m := 0) (by decide) (fun x717 hx717 => ?_)
    refine ex_pfi oq_X12_token_73 Th702 (k := 111) (d := 12) rfl rfl rfl (by omega) (by omega) (fun h718 Th718 wh718 => ?_)
    have Fh718 : cw_Fr cw_Ds cw_sh kk_X12_token.2.2.2.2.2.1 h0 h718 := cw_Fr_tr Fh702 (cw_Fr_wrf wh718 (k := 111) (d := 12) rfl rfl (by decide +kernel))
    have eh718_6 : ri_at h718 111 6 = ri_at h702 111 6 := ri_ne wh718 (by decide)
    have eh718_7 : ri_at h718 111 7 = ri_at h702 111 7 := ri_ne wh718 (by decide)
    have eh718_8 : ri_at h718 111 8 = x717.toInt := ri_self wh718
    have eh718_9 : ri_at h718 111 9 = ri_at h702 111 9 := ri_ne wh718 (by decide)
    have eh718_10 : ri_at h718 111 10 = ri_at h702 111 10 := ri_ne wh718 (by decide)
    refine ex_go oq_X12_token_76 (t := 282) rfl rfl ?_
    have e := tz_ke (t := t) (n := n) (a := a) (by omega)
    exact ex_retv oq_X12_token_282 rfl (hF h718 Th718 Fh718 (by omega) (by omega) (by rw [e]; dsimp only; omega) (by rw [e]; dsimp only; omega) (by rw [e]; exact fun q => absurd rfl q))
theorem rt_tokenL {h0 : cv_H} {n p0 : Nat} (ht : ∀ i, i < n → t i = ri_at h0 112 i) (hn9 : n ≤ 900) (hwr : ∀ i, i < 177 → ri_at h0 113 i = pp_words.getD i 0) (hF : ∀ h', cw_T G h' → cw_Fr cw_Ds cw_sh kk_X12_token.2.2.2.2.2.1 h0 h' → ri_at h' 111 6 = n → ri_at h' 111 10 = (tz_at t n p0 : Nat) → ri_at h' 111 7 = (tz_T t n p0).2.2 → ri_at h' 111 8 = (tz_T t n p0).1 → ((tz_T t n p0).1 ≠ 0 → (tz_T t n p0).1 ≠ 6 → ri_at h' 111 9 = (tz_T t n p0).2.1) → Q (none, h')) :
    ∀ (f p : Nat) (h : cv_H), n - p = f → cw_T G h → cw_Fr cw_Ds cw_sh kk_X12_token.2.2.2.2.2.1 h0 h → ri_at h 111 6 = n → p ≤ n → ri_at h 111 7 = p → tz_to (tz_b t) n p = tz_at t n p0 → cw_X X 163 Q 0 (cv_ent 0 [cv_r 111]) [] h := by
  have hA : ∀ h, cw_Fr cw_Ds cw_sh kk_X12_token.2.2.2.2.2.1 h0 h → ∀ i, ri_at h 112 i = ri_at h0 112 i := fun h F i => ri_frr F (k := 112) (d := 51) rfl rfl (by decide +kernel)
  intro f
  induction f with
  | zero =>
    intro p h hf hT Fh hs hpn hx hst
    refine ex_al oq_X12_token_0 rfl ?_
    obtain ⟨x901, ax901, rx901, lx901, ux901⟩ := fi_next hT
    refine ex_gf oq_X12_token_1 hT (k := 111) (d := 12) rfl rfl ax901 ?_
    refine ex_al oq_X12_token_4 rfl ?_
    obtain ⟨x902, ax902, rx902, lx902, ux902⟩ := fi_stop hT
    refine ex_gf oq_X12_token_5 hT (k := 111) (d := 12) rfl rfl ax902 ?_
    refine ex_if oq_X12_token_8 (t := 52) rfl rfl (fun (c903 : x902.toInt ≤ x901.toInt) => ?_) (fun (c903 : ¬ (x902.toInt ≤ x901.toInt)) => ?_)
    · have ea : tz_at t n p0 = p := by rw [← hst]; exact tz_to_stop (c := tz_b t) (n := n) (p := p) (fun q => tz_b_f (t := t) (i := p) (by omega) (by omega))
      exact rt_52 (t := t) (n := n) (a := tz_at t n p0) ht hn9 hwr (by omega) hF rfl hT Fh (by omega) (by omega)
    · exfalso; omega
  | succ f ih =>
    intro p h hf hT Fh hs hpn hx hst
    refine ex_al oq_X12_token_0 rfl ?_
    obtain ⟨x901, ax901, rx901, lx901, ux901⟩ := fi_next hT
    refine ex_gf oq_X12_token_1 hT (k := 111) (d := 12) rfl rfl ax901 ?_
    refine ex_al oq_X12_token_4 rfl ?_
    obtain ⟨x902, ax902, rx902, lx902, ux902⟩ := fi_stop hT
    refine ex_gf oq_X12_token_5 hT (k := 111) (d := 12) rfl rfl ax902 ?_
    refine ex_if oq_X12_token_8 (t := 52) rfl rfl (fun (c903 : x902.toInt ≤ x901.toInt) => ?_) (fun (c903 : ¬ (x902.toInt ≤ x901.toInt)) => ?_)
    · have ea : tz_at t n p0 = p := by rw [← hst]; exact tz_to_stop (c := tz_b t) (n := n) (p := p) (fun q => tz_b_f (t := t) (i := p) (by omega) (by omega))
      exact rt_52 (t := t) (n := n) (a := tz_at t n p0) ht hn9 hwr (by omega) hF rfl hT Fh (by omega) (by omega)
    · refine ex_al oq_X12_token_11 rfl ?_
      refine ex_gf oq_X12_token_12 hT (k := 111) (d := 12) rfl rfl (fr_tape hT) ?_
      refine ex_al oq_X12_token_15 rfl ?_
      obtain ⟨x904, ax904, rx904, lx904, ux904⟩ := fi_next hT
      refine ex_gf oq_X12_token_16 hT (k := 111) (d := 12) rfl rfl ax904 ?_
      refine ex_ia1 oq_X12_token_19 hT (k := 112) (d := 51) (j := p) rfl rfl (by omega) (by omega) (fun x905 hx905 lx905 ux905 => ?_)
      have tx905 : t (p) = x905.toInt := by rw [ht (p) (by omega), ← hA _ Fh, hx905]
      refine ex_bi oq_X12_token_20 (m := 10) (by decide) (fun x906 hx906 => ?_)
      refine ex_if oq_X12_token_22 (t := 39) rfl rfl (fun (c907 : x905.toInt = x906.toInt) => ?_) (fun (c907 : ¬ (x905.toInt = x906.toInt)) => ?_)
      · refine ex_al oq_X12_token_39 rfl ?_
        refine ex_dup oq_X12_token_40 rfl ?_
        obtain ⟨x908, ax908, rx908, lx908, ux908⟩ := fi_next hT
        refine ex_gf oq_X12_token_41 hT (k := 111) (d := 12) rfl rfl ax908 ?_
        refine ex_ic oq_X12_token_44 (m := 1) (by decide) (fun x909 hx909 => ?_)
        refine ex_add oq_X12_token_45 (by omega) (fun x910 hx910 => ?_)
        refine ex_pfi oq_X12_token_46 hT (k := 111) (d := 12) rfl rfl rfl (by omega) (by omega) (fun h911 Th911 wh911 => ?_)
        have Fh911 : cw_Fr cw_Ds cw_sh kk_X12_token.2.2.2.2.2.1 h0 h911 := cw_Fr_tr Fh (cw_Fr_wrf wh911 (k := 111) (d := 12) rfl rfl (by decide +kernel))
        have eh911_6 : ri_at h911 111 6 = ri_at h 111 6 := ri_ne wh911 (by decide)
        have eh911_7 : ri_at h911 111 7 = x910.toInt := ri_self wh911
        have eh911_8 : ri_at h911 111 8 = ri_at h 111 8 := ri_ne wh911 (by decide)
        have eh911_9 : ri_at h911 111 9 = ri_at h 111 9 := ri_ne wh911 (by decide)
        have eh911_10 : ri_at h911 111 10 = ri_at h 111 10 := ri_ne wh911 (by decide)
        refine ex_go oq_X12_token_49 (t := 0) rfl rfl ?_
        exact ih (p + 1) h911 (by omega) Th911 Fh911 (by omega) (by omega) (by omega) (by rw [← hst]; exact (tz_to_step (c := tz_b t) (p := p) (by omega) (tz_b_t (i := p) (by omega))).symm)
      · refine ex_al oq_X12_token_25 rfl ?_
        refine ex_gf oq_X12_token_26 hT (k := 111) (d := 12) rfl rfl (fr_tape hT) ?_
        refine ex_al oq_X12_token_29 rfl ?_
        obtain ⟨x912, ax912, rx912, lx912, ux912⟩ := fi_next hT
        refine ex_gf oq_X12_token_30 hT (k := 111) (d := 12) rfl rfl ax912 ?_
        refine ex_ia1 oq_X12_token_33 hT (k := 112) (d := 51) (j := p) rfl rfl (by omega) (by omega) (fun x913 hx913 lx913 ux913 => ?_)
        have tx913 : t (p) = x913.toInt := by rw [ht (p) (by omega), ← hA _ Fh, hx913]
        refine ex_bi oq_X12_token_34 (m := 32) (by decide) (fun x914 hx914 => ?_)
        refine ex_if oq_X12_token_36 (t := 52) rfl rfl (fun (c915 : ¬ x913.toInt = x914.toInt) => ?_) (fun (c915 : ¬ (¬ x913.toInt = x914.toInt)) => ?_)
        · have ea : tz_at t n p0 = p := by rw [← hst]; exact tz_to_stop (c := tz_b t) (n := n) (p := p) (fun q => tz_b_f (t := t) (i := p) (by omega) (by omega))
          exact rt_52 (t := t) (n := n) (a := tz_at t n p0) ht hn9 hwr (by omega) hF rfl hT Fh (by omega) (by omega)
        · refine ex_al oq_X12_token_39 rfl ?_
          refine ex_dup oq_X12_token_40 rfl ?_
          obtain ⟨x916, ax916, rx916, lx916, ux916⟩ := fi_next hT
          refine ex_gf oq_X12_token_41 hT (k := 111) (d := 12) rfl rfl ax916 ?_
          refine ex_ic oq_X12_token_44 (m := 1) (by decide) (fun x917 hx917 => ?_)
          refine ex_add oq_X12_token_45 (by omega) (fun x918 hx918 => ?_)
          refine ex_pfi oq_X12_token_46 hT (k := 111) (d := 12) rfl rfl rfl (by omega) (by omega) (fun h919 Th919 wh919 => ?_)
          have Fh919 : cw_Fr cw_Ds cw_sh kk_X12_token.2.2.2.2.2.1 h0 h919 := cw_Fr_tr Fh (cw_Fr_wrf wh919 (k := 111) (d := 12) rfl rfl (by decide +kernel))
          have eh919_6 : ri_at h919 111 6 = ri_at h 111 6 := ri_ne wh919 (by decide)
          have eh919_7 : ri_at h919 111 7 = x918.toInt := ri_self wh919
          have eh919_8 : ri_at h919 111 8 = ri_at h 111 8 := ri_ne wh919 (by decide)
          have eh919_9 : ri_at h919 111 9 = ri_at h 111 9 := ri_ne wh919 (by decide)
          have eh919_10 : ri_at h919 111 10 = ri_at h 111 10 := ri_ne wh919 (by decide)
          refine ex_go oq_X12_token_49 (t := 0) rfl rfl ?_
          exact ih (p + 1) h919 (by omega) Th919 Fh919 (by omega) (by omega) (by omega) (by rw [← hst]; exact (tz_to_step (c := tz_b t) (p := p) (by omega) (tz_b_t (i := p) (by omega))).symm)
end TZ
end
section
/-! ===== numbers: what both sides take them for ===== -/
def zk (t : Nat → Int) (n p : Nat) : Int := (tz_T t n p).1
def zw (t : Nat → Int) (n p : Nat) : Int := (tz_T t n p).2.1
def zx (t : Nat → Int) (n p : Nat) : Nat := (tz_T t n p).2.2
def za (t : Nat → Int) (n p : Nat) : Nat := tz_at t n p
theorem zx_le {t : Nat → Int} {n p : Nat} (hp : p ≤ n) : zx t n p ≤ n := (tz_tk_ok (t := t) (n := n) (a := tz_at t n p) (tz_le hp)).1
theorem zx_ge {t : Nat → Int} {n p : Nat} (hp : p ≤ n) : p ≤ zx t n p := Nat.le_trans (tz_ge (c := tz_b t)) (tz_tk_ok (t := t) (n := n) (a := tz_at t n p) (tz_le hp)).2.1
theorem zx_gt {t : Nat → Int} {n p : Nat} (hp : p ≤ n) (hk : zk t n p ≠ 0) : p < zx t n p := Nat.lt_of_le_of_lt (tz_ge (c := tz_b t)) ((tz_tk_ok (t := t) (n := n) (a := tz_at t n p) (tz_le hp)).2.2.2.2.2.2.1 hk)
theorem zk_b {t : Nat → Int} {n p : Nat} (hp : p ≤ n) : 0 ≤ zk t n p ∧ zk t n p ≤ 6 := ⟨(tz_tk_ok (t := t) (n := n) (a := tz_at t n p) (tz_le hp)).2.2.2.2.1, (tz_tk_ok (t := t) (n := n) (a := tz_at t n p) (tz_le hp)).2.2.2.2.2.1⟩
theorem zw_1 {t : Nat → Int} {n p : Nat} (hp : p ≤ n) (hk : zk t n p = 1) : 0 ≤ zw t n p ∧ zw t n p ≤ 33 := (tz_tk_ok (t := t) (n := n) (a := tz_at t n p) (tz_le hp)).2.2.1 hk
theorem zw_3 {t : Nat → Int} {n p : Nat} (hp : p ≤ n) (hk : zk t n p = 3) : 0 ≤ zw t n p ∧ zw t n p ≤ 99999 := (tz_tk_ok (t := t) (n := n) (a := tz_at t n p) (tz_le hp)).2.2.2.2.2.2.2 hk
/-- the reference stands at the word behind p; the class stands there -/
def zR (t : Nat → Int) (n p : Nat) (h : cv_H) : Prop := ri_at h 111 6 = n ∧ ri_at h 111 10 = (za t n p : Nat) ∧ ri_at h 111 7 = (zx t n p : Nat) ∧ ri_at h 111 8 = zk t n p ∧ (zk t n p ≠ 0 → zk t n p ≠ 6 → ri_at h 111 9 = zw t n p)
def zC (t : Nat → Int) (n p : Nat) (h : cv_H) : Prop := ri_at h 51 2 = n ∧ ri_at h 51 5 = (za t n p : Nat) ∧ ri_at h 51 3 = (zx t n p : Nat) ∧ tz_rel (zk t n p) (zw t n p) (ri_at h 51 4) (ri_at h 51 6)
/-- a number between lo and hi: what goes wrong and where, or the number and the next place -/
def zn (t : Nat → Int) (n : Nat) (lo hi : Int) (p : Nat) : (Int × Nat) ⊕ (Int × Nat) := if zk t n p = 3 then (if lo ≤ zw t n p ∧ zw t n p ≤ hi then .inr (zw t n p, zx t n p) else .inl (2, za t n p)) else .inl (1, za t n p)
theorem zn_ok {t : Nat → Int} {n p : Nat} {lo hi : Int} (h1 : zk t n p = 3) (h2 : lo ≤ zw t n p) (h3 : zw t n p ≤ hi) : zn t n lo hi p = .inr (zw t n p, zx t n p) := by unfold zn; rw [if_pos h1, if_pos ⟨h2, h3⟩]
theorem zn_2 {t : Nat → Int} {n p : Nat} {lo hi : Int} (h1 : zk t n p = 3) (h2 : zw t n p < lo ∨ hi < zw t n p) : zn t n lo hi p = .inl (2, za t n p) := by unfold zn; rw [if_pos h1, if_neg (by omega)]
theorem zn_1 {t : Nat → Int} {n p : Nat} {lo hi : Int} (h1 : ¬ zk t n p = 3) : zn t n lo hi p = .inl (1, za t n p) := by unfold zn; rw [if_neg h1]
/-- the same with a sign before it -/
def zg (t : Nat → Int) (n : Nat) (hi : Int) (p : Nat) : (Int × Nat) ⊕ (Int × Nat) := if zk t n p = 4 ∧ zw t n p = 45 then (match zn t n 0 hi (zx t n p) with
  | .inl e => .inl e
  | .inr (v, q) => .inr (-v, q)) else zn t n 0 hi p
/-- the ends of a call that answers yes or no, on the reference's side -/
def zRe {α : Type} (t : Nat → Int) (n : Nat) (h h' : cv_H) (x : Int32) (z : (Int × Nat) ⊕ (α × Nat)) (D : α → Prop) : Prop :=
  (∃ v q, z = .inr (v, q) ∧ q ≤ n ∧ x.toInt = 1 ∧ zR t n q h' ∧ ri_at h' 111 4 = ri_at h 111 4 ∧ ri_at h' 111 5 = ri_at h 111 5 ∧ D v) ∨ (∃ f a, z = .inl (f, a) ∧ x.toInt = 0 ∧ ri_at h' 111 4 = f ∧ ri_at h' 111 5 = a ∧ 1 ≤ f)
section TZ
variable {G : Int} {X : cv_X} {Q : cv_O → Prop} {t : Nat → Int}
theorem rt_isIn {h : cv_H} (a b c : Int32) (hQ : ∀ x : Int32, (x.toInt = 1 ∧ b.toInt ≤ a.toInt ∧ a.toInt ≤ c.toInt ∨ x.toInt = 0 ∧ (a.toInt < b.toInt ∨ c.toInt < a.toInt)) → Q (some (cv_i x), h)) : cw_X X 156 Q 0 (cv_ent 0 [cv_i a, cv_i b, cv_i c]) [] h := by
  refine ex_il oq_X12_isIn_0 rfl ?_
  refine ex_il oq_X12_isIn_1 rfl ?_
  refine ex_if oq_X12_isIn_2 (t := 14) rfl rfl (fun (c1 : a.toInt < b.toInt) => ?_) (fun (c1 : ¬ (a.toInt < b.toInt)) => ?_)
  · refine ex_ic oq_X12_isIn_14 (m := 0) (by decide) (fun x2 hx2 => ?_)
    exact ex_retb oq_X12_isIn_15 rfl (by omega) (by omega) (hQ x2 (by omega))
  · refine ex_il oq_X12_isIn_5 rfl ?_
    refine ex_il oq_X12_isIn_6 rfl ?_
    refine ex_if oq_X12_isIn_7 (t := 14) rfl rfl (fun (c3 : c.toInt < a.toInt) => ?_) (fun (c3 : ¬ (c.toInt < a.toInt)) => ?_)
    · refine ex_ic oq_X12_isIn_14 (m := 0) (by decide) (fun x4 hx4 => ?_)
      exact ex_retb oq_X12_isIn_15 rfl (by omega) (by omega) (hQ x4 (by omega))
    · refine ex_ic oq_X12_isIn_10 (m := 1) (by decide) (fun x5 hx5 => ?_)
      refine ex_go oq_X12_isIn_11 (t := 15) rfl rfl ?_
      exact ex_retb oq_X12_isIn_15 rfl (by omega) (by omega) (hQ x5 (by omega))
theorem rt_wrong {h0 : cv_H} (hT : cw_T G h0) (f : Int32) (hQ : ∀ (x : Int32) h', cw_T G h' → cw_Fr cw_Ds cw_sh kk_X12_wrong.2.2.2.2.2.1 h0 h' → x.toInt = 0 → ri_at h' 111 4 = f.toInt → ri_at h' 111 5 = ri_at h0 111 10 → Q (some (cv_i x), h')) : cw_X X 159 Q 0 (cv_ent 0 [cv_r 111, cv_i f]) [] h0 := by
  have Fh0 : cw_Fr cw_Ds cw_sh kk_X12_wrong.2.2.2.2.2.1 h0 h0 := cw_Fr_refl
  refine ex_al oq_X12_wrong_0 rfl ?_
  refine ex_il oq_X12_wrong_1 rfl ?_
  refine ex_pfi oq_X12_wrong_2 hT (k := 111) (d := 12) rfl rfl rfl (cw_i32 _).1 (cw_i32 _).2 (fun h51 Th51 wh51 => ?_)
  have Fh51 : cw_Fr cw_Ds cw_sh kk_X12_wrong.2.2.2.2.2.1 h0 h51 := cw_Fr_tr Fh0 (cw_Fr_wrf wh51 (k := 111) (d := 12) rfl rfl (by decide +kernel))
  have eh51_4 : ri_at h51 111 4 = f.toInt := ri_self wh51
  have eh51_5 : ri_at h51 111 5 = ri_at h0 111 5 := ri_ne wh51 (by decide)
  have eh51_6 : ri_at h51 111 6 = ri_at h0 111 6 := ri_ne wh51 (by decide)
  have eh51_7 : ri_at h51 111 7 = ri_at h0 111 7 := ri_ne wh51 (by decide)
  have eh51_8 : ri_at h51 111 8 = ri_at h0 111 8 := ri_ne wh51 (by decide)
  have eh51_9 : ri_at h51 111 9 = ri_at h0 111 9 := ri_ne wh51 (by decide)
  have eh51_10 : ri_at h51 111 10 = ri_at h0 111 10 := ri_ne wh51 (by decide)
  have eh51_11 : ri_at h51 111 11 = ri_at h0 111 11 := ri_ne wh51 (by decide)
  refine ex_al oq_X12_wrong_5 rfl ?_
  refine ex_al oq_X12_wrong_6 rfl ?_
  obtain ⟨x52, ax52, rx52, lx52, ux52⟩ := fi_at Th51
  refine ex_gf oq_X12_wrong_7 Th51 (k := 111) (d := 12) rfl rfl ax52 ?_
  refine ex_pfi oq_X12_wrong_10 Th51 (k := 111) (d := 12) rfl rfl rfl (cw_i32 _).1 (cw_i32 _).2 (fun h53 Th53 wh53 => ?_)
  have Fh53 : cw_Fr cw_Ds cw_sh kk_X12_wrong.2.2.2.2.2.1 h0 h53 := cw_Fr_tr Fh51 (cw_Fr_wrf wh53 (k := 111) (d := 12) rfl rfl (by decide +kernel))
  have eh53_4 : ri_at h53 111 4 = ri_at h51 111 4 := ri_ne wh53 (by decide)
  have eh53_5 : ri_at h53 111 5 = x52.toInt := ri_self wh53
  have eh53_6 : ri_at h53 111 6 = ri_at h51 111 6 := ri_ne wh53 (by decide)
  have eh53_7 : ri_at h53 111 7 = ri_at h51 111 7 := ri_ne wh53 (by decide)
  have eh53_8 : ri_at h53 111 8 = ri_at h51 111 8 := ri_ne wh53 (by decide)
  have eh53_9 : ri_at h53 111 9 = ri_at h51 111 9 := ri_ne wh53 (by decide)
  have eh53_10 : ri_at h53 111 10 = ri_at h51 111 10 := ri_ne wh53 (by decide)
  have eh53_11 : ri_at h53 111 11 = ri_at h51 111 11 := ri_ne wh53 (by decide)
  refine ex_ic oq_X12_wrong_13 (m := 0) (by decide) (fun x54 hx54 => ?_)
  exact ex_retb oq_X12_wrong_14 rfl (by omega) (by omega) (hQ x54 h53 Th53 Fh53 (by omega) (by omega) (by omega))
theorem rt_tok {h0 : cv_H} {n p : Nat} (ht : ∀ i, i < n → t i = ri_at h0 112 i) (hn9 : n ≤ 900) (hwr : ∀ i, i < 177 → ri_at h0 113 i = pp_words.getD i 0) (hT : cw_T G h0) (hpn : p ≤ n) (hs : ri_at h0 111 6 = n) (hx : ri_at h0 111 7 = p) (hQ : ∀ h', cw_T G h' → cw_Fr cw_Ds cw_sh kk_X12_token.2.2.2.2.2.1 h0 h' → zR t n p h' → Q (none, h')) : cw_X X 163 Q 0 (cv_ent 0 [cv_r 111]) [] h0 :=
  rt_tokenL ht hn9 hwr (fun h' b1 b2 b3 b4 b5 b6 b7 => hQ h' b1 b2 ⟨b3, b4, b5, b6, b7⟩) (n - p) p h0 rfl hT cw_Fr_refl hs hpn hx rfl
theorem rt_number {h0 : cv_H} {n p : Nat} (ht : ∀ i, i < n → t i = ri_at h0 112 i) (hn9 : n ≤ 900) (hT : cw_T G h0) (hwr : ∀ i, i < 177 → ri_at h0 113 i = pp_words.getD i 0) (hpn : p ≤ n) (hz : zR t n p h0) (lo hi : Int32) (hQ : ∀ (x : Int32) h', cw_T G h' → cw_Fr cw_Ds cw_sh kk_X12_number.2.2.2.2.2.1 h0 h' → zRe t n h0 h' x (zn t n lo.toInt hi.toInt p) (fun v => ri_at h' 111 11 = v) → Q (some (cv_i x), h')) : cw_X X 168 Q 0 (cv_ent 0 [cv_r 111, cv_i lo, cv_i hi]) [] h0 := by
  have Fh0 : cw_Fr cw_Ds cw_sh kk_X12_number.2.2.2.2.2.1 h0 h0 := cw_Fr_refl
  obtain ⟨z1, z2, z3, z4, z5⟩ := hz
  have zb := zk_b (t := t) hpn
  have hA : ∀ h, cw_Fr cw_Ds cw_sh kk_X12_number.2.2.2.2.2.1 h0 h → ∀ i, ri_at h 112 i = ri_at h0 112 i := fun h F i => ri_frr F (k := 112) (d := 51) rfl rfl (by decide +kernel)
  have hB : ∀ h, cw_Fr cw_Ds cw_sh kk_X12_number.2.2.2.2.2.1 h0 h → ∀ i, ri_at h 113 i = ri_at h0 113 i := fun h F i => ri_frr F (k := 113) (d := 52) rfl rfl (by decide +kernel)
  refine ex_al oq_X12_number_0 rfl ?_
  obtain ⟨x101, ax101, rx101, lx101, ux101⟩ := fi_kind hT
  refine ex_gf oq_X12_number_1 hT (k := 111) (d := 12) rfl rfl ax101 ?_
  refine ex_ic oq_X12_number_4 (m := 3) (by decide) (fun x102 hx102 => ?_)
  refine ex_if oq_X12_number_5 (t := 14) rfl rfl (fun (c103 : x101.toInt = x102.toInt) => ?_) (fun (c103 : ¬ (x101.toInt = x102.toInt)) => ?_)
  · refine ex_al oq_X12_number_14 rfl ?_
    obtain ⟨x104, ax104, rx104, lx104, ux104⟩ := fi_which hT
    refine ex_gf oq_X12_number_15 hT (k := 111) (d := 12) rfl rfl ax104 ?_
    refine ex_il oq_X12_number_18 rfl ?_
    refine ex_il oq_X12_number_19 rfl ?_
    refine ex_cs oq_X12_number_20 (by decide) (as := [cv_i x104, cv_i lo, cv_i hi]) (stk := []) rfl rfl rfl ⟨rfl, rfl⟩ (R := fun o => ∃ x : Int32, o = (some (cv_i x), h0) ∧ (x.toInt = 1 ∧ lo.toInt ≤ x104.toInt ∧ x104.toInt ≤ hi.toInt ∨ x.toInt = 0 ∧ (x104.toInt < lo.toInt ∨ hi.toInt < x104.toInt))) (rt_isIn x104 lo hi (fun x q => ⟨x, rfl, q⟩)) (fun o ho => ?_)
    obtain ⟨x105, rfl, dx105⟩ := ho
    show cw_X _ _ _ _ _ [cv_i x105] h0
    refine ex_if0 oq_X12_number_23 (t := 32) rfl rfl (fun (c106 : ¬ x105.toInt = 0) => ?_) (fun (c106 : ¬ (¬ x105.toInt = 0)) => ?_)
    · refine ex_al oq_X12_number_32 rfl ?_
      refine ex_al oq_X12_number_33 rfl ?_
      obtain ⟨x107, ax107, rx107, lx107, ux107⟩ := fi_which hT
      refine ex_gf oq_X12_number_34 hT (k := 111) (d := 12) rfl rfl ax107 ?_
      refine ex_pfi oq_X12_number_37 hT (k := 111) (d := 12) rfl rfl rfl (cw_i32 _).1 (cw_i32 _).2 (fun h108 Th108 wh108 => ?_)
      have Fh108 : cw_Fr cw_Ds cw_sh kk_X12_number.2.2.2.2.2.1 h0 h108 := cw_Fr_tr Fh0 (cw_Fr_wrf wh108 (k := 111) (d := 12) rfl rfl (by decide +kernel))
      have eh108_4 : ri_at h108 111 4 = ri_at h0 111 4 := ri_ne wh108 (by decide)
      have eh108_5 : ri_at h108 111 5 = ri_at h0 111 5 := ri_ne wh108 (by decide)
      have eh108_6 : ri_at h108 111 6 = ri_at h0 111 6 := ri_ne wh108 (by decide)
      have eh108_7 : ri_at h108 111 7 = ri_at h0 111 7 := ri_ne wh108 (by decide)
      have eh108_8 : ri_at h108 111 8 = ri_at h0 111 8 := ri_ne wh108 (by decide)
      have eh108_9 : ri_at h108 111 9 = ri_at h0 111 9 := ri_ne wh108 (by decide)
      have eh108_10 : ri_at h108 111 10 = ri_at h0 111 10 := ri_ne wh108 (by decide)
      have eh108_11 : ri_at h108 111 11 = x107.toInt := ri_self wh108
      refine ex_al oq_X12_number_40 rfl ?_
      refine ex_cv oq_X12_number_41 (by decide) Th108 (k := 111) (d := 12) (as := []) (stk := []) rfl rfl rfl rfl rfl rfl ⟨rfl, rfl⟩ (R := fun o => ∃ hb : cv_H, o = (none, hb) ∧ cw_T G hb ∧ cw_Fr cw_Ds cw_sh kk_X12_token.2.2.2.2.2.1 h108 hb ∧ zR t n (zx t n p) hb) (rt_tok (t := t) (n := n) (p := zx t n p) (fun i hi => by rw [ht i hi, ← hA _ Fh108]) hn9 (fun i hi => by rw [hB _ Fh108]; exact hwr i hi) Th108 (zx_le (by omega)) (by omega) (by omega) (fun hb b1 b2 b3 => ⟨hb, rfl, b1, b2, b3⟩)) (fun o ho => ?_)
      obtain ⟨h109, rfl, Th109, Ch109, Zh109⟩ := ho
      show cw_X _ _ _ _ _ [] h109
      have Fh109 : cw_Fr cw_Ds cw_sh kk_X12_number.2.2.2.2.2.1 h0 h109 := cw_Fr_tr Fh108 (cw_Fr_mono (by decide +kernel) Ch109)
      have eh109_4 : ri_at h109 111 4 = ri_at h108 111 4 := ri_frf Ch109 (d := 12) rfl rfl (by decide +kernel)
      have eh109_5 : ri_at h109 111 5 = ri_at h108 111 5 := ri_frf Ch109 (d := 12) rfl rfl (by decide +kernel)
      have eh109_11 : ri_at h109 111 11 = ri_at h108 111 11 := ri_frf Ch109 (d := 12) rfl rfl (by decide +kernel)
      refine ex_ic oq_X12_number_44 (m := 1) (by decide) (fun x110 hx110 => ?_)
      exact ex_retb oq_X12_number_45 rfl (by omega) (by omega) (hQ x110 h109 Th109 Fh109 (.inl ⟨_, _, zn_ok (by omega) (by omega) (by omega), zx_le (by omega), by omega, Zh109, by omega, by omega, by omega⟩))
    · refine ex_al oq_X12_number_26 rfl ?_
      refine ex_ic oq_X12_number_27 (m := 2) (by decide) (fun x111 hx111 => ?_)
      refine ex_cv oq_X12_number_28 (by decide) hT (k := 111) (d := 12) (as := [cv_i x111]) (stk := []) rfl rfl rfl rfl rfl rfl ⟨rfl, rfl⟩ (R := fun o => ∃ (x : Int32) (hb : cv_H), o = (some (cv_i x), hb) ∧ cw_T G hb ∧ cw_Fr cw_Ds cw_sh kk_X12_wrong.2.2.2.2.2.1 h0 hb ∧ x.toInt = 0 ∧ ri_at hb 111 4 = x111.toInt ∧ ri_at hb 111 5 = ri_at h0 111 10) (rt_wrong hT x111 (fun x hb b1 b2 b3 b4 b5 => ⟨x, hb, rfl, b1, b2, b3, b4, b5⟩)) (fun o ho => ?_)
      obtain ⟨x112, h113, rfl, Th113, Ch113, zh113, fh113, ph113⟩ := ho
      show cw_X _ _ _ _ _ [cv_i x112] h113
      have Fh113 : cw_Fr cw_Ds cw_sh kk_X12_number.2.2.2.2.2.1 h0 h113 := cw_Fr_tr Fh0 (cw_Fr_mono (by decide +kernel) Ch113)
      exact ex_retb oq_X12_number_31 rfl (by omega) (by omega) (hQ x112 h113 Th113 Fh113 (.inr ⟨_, _, zn_2 (by omega) (by omega), by omega, by omega, by omega, by decide⟩))
  · refine ex_al oq_X12_number_8 rfl ?_
    refine ex_ic oq_X12_number_9 (m := 1) (by decide) (fun x114 hx114 => ?_)
    refine ex_cv oq_X12_number_10 (by decide) hT (k := 111) (d := 12) (as := [cv_i x114]) (stk := []) rfl rfl rfl rfl rfl rfl ⟨rfl, rfl⟩ (R := fun o => ∃ (x : Int32) (hb : cv_H), o = (some (cv_i x), hb) ∧ cw_T G hb ∧ cw_Fr cw_Ds cw_sh kk_X12_wrong.2.2.2.2.2.1 h0 hb ∧ x.toInt = 0 ∧ ri_at hb 111 4 = x114.toInt ∧ ri_at hb 111 5 = ri_at h0 111 10) (rt_wrong hT x114 (fun x hb b1 b2 b3 b4 b5 => ⟨x, hb, rfl, b1, b2, b3, b4, b5⟩)) (fun o ho => ?_)
    obtain ⟨x115, h116, rfl, Th116, Ch116, zh116, fh116, ph116⟩ := ho
    show cw_X _ _ _ _ _ [cv_i x115] h116
    have Fh116 : cw_Fr cw_Ds cw_sh kk_X12_number.2.2.2.2.2.1 h0 h116 := cw_Fr_tr Fh0 (cw_Fr_mono (by decide +kernel) Ch116)
    exact ex_retb oq_X12_number_13 rfl (by omega) (by omega) (hQ x115 h116 Th116 Fh116 (.inr ⟨_, _, zn_1 (by omega), by omega, by omega, by omega, by decide⟩))
end TZ
end
