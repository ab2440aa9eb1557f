/-! ===== text, weeks, keep, back: both sides ===== -/
theorem ztx_k {t : Nat → Int} {n : Nat} : ∀ (u : Nat) (k : Int) (s : zSg) (p : Nat) (s' : zSg) (k' : Int), ztx t n u k s p = .inr (s', k') → k ≤ k'
  | 0, k, s, p, s', k', e => by cases e; exact Int.le_refl _
  | u + 1, k, s, p, s', k', e => by
    rw [ztx_s] at e
    by_cases c : zk t n p = 0
    · rw [if_pos c] at e; cases e; exact Int.le_refl _
    · rw [if_neg c] at e
      obtain ⟨s1, q, -, e2⟩ := zb2_e e
      have := ztx_k u _ _ _ _ _ e2
      omega
def zTv (S : (Int × Nat) ⊕ (zSg × Int)) (h0 h : cv_H) : Prop := match S with
  | .inl _ => ri_at h 0 8 = ri_at h0 0 8 ∧ ri_at h 0 10 = ri_at h0 0 10 ∧ ri_at h 86 9 = ri_at h0 86 9 ∧ ri_at h 86 10 = ri_at h0 86 10 ∧ ri_at h 63 2 = ri_at h0 63 2
  | .inr _ => ri_at h 0 8 = 0 ∧ ri_at h 0 10 = -1 ∧ ri_at h 86 9 = 0 ∧ ri_at h 86 10 = -1 ∧ ri_at h 63 2 = 0
section TZ
variable {G : Int} {X : cv_X} {Q : cv_O → Prop} {t : Nat → Int}
set_option maxHeartbeats 8000000 in
theorem ct_text2 {h0 : cv_H} (hX : cw_Xok X) (hT : cw_T G h0) (hP : cw_PP G h0) (n : Int32) (ht : ∀ i, t i = ri_at h0 1 i % 256) (hwd : ∀ i, i < 34 → ri_at h0 52 i = tz_wc.getD i 0) (hpm2 : zPM 2 h0) (hpm26 : zPM 26 h0) (hQ : ∀ (x : Int32) h', cw_T G h' → cw_PP G h' → cw_Fr cw_Ds cw_sh kk_X11_text.2.2.2.2.2.1 h0 h' → ((n.toInt < 0 ∨ ri_at h0 0 1 < n.toInt) ∧ x.toInt = -2 ∧ h' = h0 ∨ (0 ≤ n.toInt ∧ n.toInt ≤ ri_at h0 0 1) ∧ x.toInt = x.toInt ∧ ri_at h' 0 1 = 0 ∧ zTc (ztx t n.toInt.toNat 901 0 (0, (fun _ => 0), 0, [], [], []) 0) x h' ∧ zTv (ztx t n.toInt.toNat 901 0 (0, (fun _ => 0), 0, [], [], []) 0) h0 h') → Q (some (cv_i x), h')) : cw_X X 109 Q 0 (cv_ent 0 [cv_r 0, cv_i n]) [] h0 := by
  have Fh0 : cw_Fr cw_Ds cw_sh kk_X11_text.2.2.2.2.2.1 h0 h0 := cw_Fr_refl
  refine ex_il oq_X11_text_0 rfl ?_
  refine ex_if0 oq_X11_text_1 (t := 12) rfl rfl (fun (c101 : n.toInt < 0) => ?_) (fun (c101 : ¬ (n.toInt < 0)) => ?_)
  · refine ex_bi oq_X11_text_12 (m := (-2)) (by decide) (fun x102 hx102 => ?_)
    exact ex_reti oq_X11_text_14 rfl (hQ x102 h0 hT (pp_fr0 (by decide +kernel) hP Fh0) Fh0 (.inl ⟨by omega, by omega, rfl⟩))
  · refine ex_il oq_X11_text_4 rfl ?_
    refine ex_al oq_X11_text_5 rfl ?_
    obtain ⟨x103, ax103, rx103, lx103, ux103⟩ := ri_fld (k := 0) (d := 11) (f := 1) hT rfl rfl rfl
    try dsimp only at lx103 ux103
    refine ex_gf oq_X11_text_6 hT (k := 0) (d := 11) rfl rfl ax103 ?_
    refine ex_if oq_X11_text_9 (t := 15) rfl rfl (fun (c104 : n.toInt ≤ x103.toInt) => ?_) (fun (c104 : ¬ (n.toInt ≤ x103.toInt)) => ?_)
    · refine ex_al oq_X11_text_15 rfl ?_
      refine ex_ic oq_X11_text_16 (m := 0) (by decide) (fun x105 hx105 => ?_)
      refine ex_pfi oq_X11_text_17 hT (k := 0) (d := 11) rfl rfl rfl (by omega) (by omega) (fun h106 Th106 wh106 => ?_)
      have Fh106 : cw_Fr cw_Ds cw_sh kk_X11_text.2.2.2.2.2.1 h0 h106 := cw_Fr_tr Fh0 (cw_Fr_wrf wh106 (k := 0) (d := 11) rfl rfl (by decide +kernel))
      have eh106_0_1 : ri_at h106 0 1 = x105.toInt := ri_self wh106
      have eh106_0_8 : ri_at h106 0 8 = ri_at h0 0 8 := ri_ne wh106 (.inr (by decide))
      have eh106_0_10 : ri_at h106 0 10 = ri_at h0 0 10 := ri_ne wh106 (.inr (by decide))
      have eh106_86_9 : ri_at h106 86 9 = ri_at h0 86 9 := ri_ne wh106 (.inl (by decide))
      have eh106_86_10 : ri_at h106 86 10 = ri_at h0 86 10 := ri_ne wh106 (.inl (by decide))
      have eh106_63_2 : ri_at h106 63 2 = ri_at h0 63 2 := ri_ne wh106 (.inl (by decide))
      refine ex_al oq_X11_text_20 rfl ?_
      refine ex_gf oq_X11_text_21 Th106 (k := 0) (d := 11) rfl rfl (ri_ref (k := 0) (k' := 50) (d := 11) (f := 4) Th106 rfl rfl rfl (by decide) (ri_uniq (by decide +kernel))) ?_
      refine ex_al oq_X11_text_24 rfl ?_
      obtain ⟨k107, ak107, sk107⟩ := ri_refs (k := 0) (d := 11) (f := 3) Th106 rfl rfl rfl (by decide)
      refine ex_gf oq_X11_text_25 Th106 (k := 0) (d := 11) rfl rfl ak107 ?_
      refine ex_il oq_X11_text_28 rfl ?_
      have hA : ∀ i, ri_at h106 1 i = ri_at h0 1 i := fun i => (ri_ne wh106 (.inl (by decide)))
      have hB : ∀ i, ri_at h106 52 i = ri_at h0 52 i := fun i => (ri_ne wh106 (.inl (by decide)))
      have hpm : zPM k107 h106 := by rcases sh_4 sk107 with e | e <;> subst e; exact zPM_fr (.inl rfl) Fh106 (by decide +kernel) hpm2; exact zPM_fr (.inr rfl) Fh106 (by decide +kernel) hpm26
      refine ex_cv oq_X11_text_29 (by decide) Th106 (k := 50) (d := 5) (as := [cv_r k107, cv_i n]) (stk := []) rfl rfl rfl rfl rfl rfl ⟨rfl, rfl⟩ (R := fun o => ∃ (x : Int32) (hb : cv_H), o = (some (cv_i x), hb) ∧ cw_T G hb ∧ cw_Fr cw_Ds cw_sh kk_X5_readText.2.2.2.2.2.1 h106 hb ∧ zTc (ztx t n.toInt.toNat 901 0 (0, (fun _ => 0), 0, [], [], []) 0) x hb) (ct_readText (t := t) (n := n.toInt.toNat) (fun i => by rw [ht, ← hA]) (fun i hi => by rw [hB]; exact hwd i hi) (by omega) Th106 (sh_4 sk107) hpm (N := n) (by omega) (fun x hb b1 b2 b3 => ⟨x, hb, rfl, b1, b2, b3⟩)) (fun o ho => ?_)
      obtain ⟨x108, h109, rfl, Th109, Ch109, ex108⟩ := ho
      show cw_X _ _ _ _ _ [cv_i x108] h109
      have Fh109 : cw_Fr cw_Ds cw_sh kk_X11_text.2.2.2.2.2.1 h0 h109 := cw_Fr_tr Fh106 (cw_Fr_mono (by decide +kernel) Ch109)
      have eh109_0_1 : ri_at h109 0 1 = x105.toInt := (ri_frf Ch109 (k := 0) (d := 11) rfl rfl (by decide +kernel)).trans eh106_0_1
      clear eh106_0_1
      have eh109_0_8 : ri_at h109 0 8 = ri_at h0 0 8 := (ri_frf Ch109 (k := 0) (d := 11) rfl rfl (by decide +kernel)).trans eh106_0_8
      clear eh106_0_8
      have eh109_0_10 : ri_at h109 0 10 = ri_at h0 0 10 := (ri_frf Ch109 (k := 0) (d := 11) rfl rfl (by decide +kernel)).trans eh106_0_10
      clear eh106_0_10
      have eh109_86_9 : ri_at h109 86 9 = ri_at h0 86 9 := (ri_frf Ch109 (k := 86) (d := 3) rfl rfl (by decide +kernel)).trans eh106_86_9
      clear eh106_86_9
      have eh109_86_10 : ri_at h109 86 10 = ri_at h0 86 10 := (ri_frf Ch109 (k := 86) (d := 3) rfl rfl (by decide +kernel)).trans eh106_86_10
      clear eh106_86_10
      have eh109_63_2 : ri_at h109 63 2 = ri_at h0 63 2 := (ri_frf Ch109 (k := 63) (d := 10) rfl rfl (by decide +kernel)).trans eh106_63_2
      clear eh106_63_2
      refine ex_isA oq_X11_text_32 (fun L110 gL110_2 kL110 => ?_)
      have gL110_0 : cv_get L110 0 = some (cv_r 0) := kL110 0 _ (by decide) (fun q => absurd q (by decide)) rfl
      have gL110_1 : cv_get L110 1 = some (cv_i n) := kL110 1 _ (by decide) (fun _ => rfl) rfl
      refine ex_il oq_X11_text_33 gL110_2 ?_
      refine ex_ic oq_X11_text_34 (m := (-1)) (by decide) (fun x111 hx111 => ?_)
      refine ex_if oq_X11_text_35 (t := 42) rfl rfl (fun (c112 : x108.toInt = x111.toInt) => ?_) (fun (c112 : ¬ (x108.toInt = x111.toInt)) => ?_)
      · refine ex_il oq_X11_text_42 gL110_2 ?_
        have hx2 := ex108
        have hv : zTv (ztx t n.toInt.toNat 901 0 (0, (fun _ => 0), 0, [], [], []) 0) h0 h109 := by
          unfold zTv
          cases eS : ztx t n.toInt.toNat 901 0 (0, (fun _ => 0), 0, [], [], []) 0 with
          | inl q => exact ⟨by omega, by omega, by omega, by omega, by omega⟩
          | inr q =>
            obtain ⟨s1, k1⟩ := q
            rw [eS] at hx2
            have := ztx_k _ _ _ _ _ _ eS
            have := hx2.1
            exfalso; omega
        exact ex_reti oq_X11_text_43 rfl (hQ x108 h109 Th109 (pp_fr0 (by decide +kernel) hP Fh109) Fh109 (.inr ⟨by omega, by omega, by omega, ex108, hv⟩))
      · refine ex_al oq_X11_text_38 gL110_0 ?_
        have Ph109 : cw_PP G h109 := pp_fr0 (by decide +kernel) hP Fh109
        refine ex_cv oq_X11_text_39 (by decide) Th109 (k := 0) (d := 11) (as := []) (stk := []) rfl rfl rfl rfl rfl rfl ⟨rfl, rfl⟩ (R := fun o => ∃ hb : cv_H, o = (none, hb) ∧ cw_T G hb ∧ cw_Fr cw_Ds cw_sh kk_X11_takeSpare.2.2.2.2.2.1 h109 hb ∧ (ri_at hb 0 8 = 0 ∧ ri_at hb 0 10 = -1 ∧ ri_at hb 86 9 = 0 ∧ ri_at hb 86 10 = -1 ∧ ri_at hb 63 2 = 0)) (ct_takeSpare (cw_Xok_no2 hX) Th109 Ph109 (fun hb b1 b2 b3 b4 => ⟨hb, rfl, b1, b3, b4⟩)) (fun o ho => ?_)
        obtain ⟨h113, rfl, Th113, Ch113, zh113⟩ := ho
        show cw_X _ _ _ _ _ [] h113
        have Fh113 : cw_Fr cw_Ds cw_sh kk_X11_text.2.2.2.2.2.1 h0 h113 := cw_Fr_tr Fh109 (cw_Fr_mono (by decide +kernel) Ch113)
        have eh113_0_1 : ri_at h113 0 1 = x105.toInt := (ri_frf Ch113 (k := 0) (d := 11) rfl rfl (by decide +kernel)).trans eh109_0_1
        clear eh109_0_1
        have ex108b := zTc_fr Ch113 (by decide +kernel) ex108
        refine ex_il oq_X11_text_42 gL110_2 ?_
        have hx2 := ex108b
        have hv : zTv (ztx t n.toInt.toNat 901 0 (0, (fun _ => 0), 0, [], [], []) 0) h0 h113 := by
          unfold zTv
          cases eS : ztx t n.toInt.toNat 901 0 (0, (fun _ => 0), 0, [], [], []) 0 with
          | inl q => rw [eS] at hx2; exact absurd hx2.1 (by omega)
          | inr q => exact zh113
        exact ex_reti oq_X11_text_43 rfl (hQ x108 h113 Th113 (pp_fr0 (by decide +kernel) hP Fh113) Fh113 (.inr ⟨by omega, by omega, by omega, ex108b, hv⟩))
    · refine ex_bi oq_X11_text_12 (m := (-2)) (by decide) (fun x114 hx114 => ?_)
      exact ex_reti oq_X11_text_14 rfl (hQ x114 h0 hT (pp_fr0 (by decide +kernel) hP Fh0) Fh0 (.inl ⟨by omega, by omega, rfl⟩))
theorem ct_isAhead {h : cv_H} (n : Int32) (hQ : ∀ x : Int32, (x.toInt = 1 ∧ (0 ≤ n.toInt ∧ n.toInt ≤ 520) ∨ x.toInt = 0 ∧ ¬ (0 ≤ n.toInt ∧ n.toInt ≤ 520)) → Q (some (cv_i x), h)) : cw_X X 116 Q 0 (cv_ent 0 [cv_i n]) [] h := by
  refine ex_il oq_X11_isAhead_0 rfl ?_
  refine ex_if0 oq_X11_isAhead_1 (t := 15) rfl rfl (fun (c11 : n.toInt < 0) => ?_) (fun (c11 : ¬ (n.toInt < 0)) => ?_)
  · refine ex_ic oq_X11_isAhead_15 (m := 0) (by decide) (fun x12 hx12 => ?_)
    exact ex_retb oq_X11_isAhead_16 rfl (by omega) (by omega) (hQ x12 (by omega))
  · refine ex_il oq_X11_isAhead_4 rfl ?_
    refine ex_si oq_X11_isAhead_5 (m := 520) (by decide) (fun x13 hx13 => ?_)
    refine ex_if oq_X11_isAhead_8 (t := 15) rfl rfl (fun (c14 : x13.toInt < n.toInt) => ?_) (fun (c14 : ¬ (x13.toInt < n.toInt)) => ?_)
    · refine ex_ic oq_X11_isAhead_15 (m := 0) (by decide) (fun x15 hx15 => ?_)
      exact ex_retb oq_X11_isAhead_16 rfl (by omega) (by omega) (hQ x15 (by omega))
    · refine ex_ic oq_X11_isAhead_11 (m := 1) (by decide) (fun x16 hx16 => ?_)
      refine ex_go oq_X11_isAhead_12 (t := 16) rfl rfl ?_
      exact ex_retb oq_X11_isAhead_16 rfl (by omega) (by omega) (hQ x16 (by omega))
set_option maxHeartbeats 8000000 in
theorem wk_lp {h0 : cv_H} (hX : cw_Xok X) (hP : cw_PP G h0) {w : Int} {n : Int32} (hn : 0 ≤ n.toInt ∧ n.toInt ≤ 520) (hw2 : 0 ≤ w ∧ w + n.toInt ≤ 2000) (hQ : ∀ (x : Int32) h', cw_T G h' → cw_PP G h' → cw_Fr cw_Ds cw_sh kk_X11_weeks.2.2.2.2.2.1 h0 h' → ((¬ (0 ≤ n.toInt ∧ n.toInt ≤ 520) ∨ 2000 < w + n.toInt) ∧ x.toInt = -1 ∧ ri_at h' 0 8 = w ∨ ((0 ≤ n.toInt ∧ n.toInt ≤ 520) ∧ w + n.toInt ≤ 2000) ∧ x.toInt = w + n.toInt ∧ ri_at h' 0 8 = w + n.toInt) → Q (some (cv_i x), h')) : ∀ (u i : Nat) (L : cv_L) (I : Int32) (h : cv_H), i + u = 4 → cw_T G h → cw_Fr cw_Ds cw_sh kk_X11_weeks.2.2.2.2.2.1 h0 h → ri_at h 0 8 = w → I.toInt = i → cv_get L 0 = some (cv_r 0) → cv_get L 1 = some (cv_i n) → cv_get L 2 = some (cv_i I) → cw_X X 121 Q 23 L [] h := by
  intro u
  induction u with
  | zero =>
    intro i L I h hiu hT Fh hw hI g0 g1 g2
    refine ex_il oq_X11_weeks_23 g2 ?_
    refine ex_al oq_X11_weeks_24 g0 ?_
    obtain ⟨k101, ak101, sk101⟩ := ri_refs (k := 0) (d := 11) (f := 2) hT rfl rfl rfl (by decide)
    refine ex_gf oq_X11_weeks_25 hT (k := 0) (d := 11) rfl rfl ak101 ?_
    obtain ⟨x102, ax102, rx102, lx102, ux102⟩ := ri_fld (k := k101) (d := 4) (f := 9) hT sk101 rfl rfl
    try dsimp only at lx102 ux102
    refine ex_gf oq_X11_weeks_28 hT (k := k101) (d := 4) sk101 rfl ax102 ?_
    refine ex_if oq_X11_weeks_31 (t := 71) rfl rfl (fun (c103 : x102.toInt ≤ I.toInt) => ?_) (fun (c103 : ¬ (x102.toInt ≤ I.toInt)) => ?_)
    · refine ex_al oq_X11_weeks_71 g0 ?_
      refine ex_dup oq_X11_weeks_72 rfl ?_
      obtain ⟨x104, ax104, rx104, lx104, ux104⟩ := ri_fld (k := 0) (d := 11) (f := 8) hT rfl rfl rfl
      try dsimp only at lx104 ux104
      refine ex_gf oq_X11_weeks_73 hT (k := 0) (d := 11) rfl rfl ax104 ?_
      have rx104 := (rx104.symm.trans hw : x104.toInt = w)
      refine ex_il oq_X11_weeks_76 g1 ?_
      refine ex_add oq_X11_weeks_77 (by omega) (fun x105 hx105 => ?_)
      refine ex_pfi oq_X11_weeks_78 hT (k := 0) (d := 11) rfl rfl rfl (by omega) (by omega) (fun h106 Th106 wh106 => ?_)
      have Fh106 : cw_Fr cw_Ds cw_sh kk_X11_weeks.2.2.2.2.2.1 h0 h106 := cw_Fr_tr Fh (cw_Fr_wrf wh106 (k := 0) (d := 11) rfl rfl (by decide +kernel))
      have eh106_0_8 : ri_at h106 0 8 = x105.toInt := ri_self wh106
      refine ex_al oq_X11_weeks_81 g0 ?_
      obtain ⟨x107, ax107, rx107, lx107, ux107⟩ := ri_fld (k := 0) (d := 11) (f := 8) Th106 rfl rfl rfl
      try dsimp only at lx107 ux107
      refine ex_gf oq_X11_weeks_82 Th106 (k := 0) (d := 11) rfl rfl ax107 ?_
      have rx107 := (rx107.symm.trans eh106_0_8 : x107.toInt = x105.toInt)
      exact ex_reti oq_X11_weeks_85 rfl (hQ x107 h106 Th106 (pp_fr0 (by decide +kernel) hP Fh106) Fh106 (by omega))
    · refine ex_il oq_X11_weeks_34 g2 ?_
      refine ex_al oq_X11_weeks_35 g0 ?_
      refine ex_gf oq_X11_weeks_36 hT (k := 0) (d := 11) rfl rfl (ri_ref (k := 0) (k' := 61) (d := 11) (f := 7) hT rfl rfl rfl (by decide) (ri_uniq (by decide +kernel))) ?_
      refine ex_lenr oq_X11_weeks_39 hT (k := 61) (d := 14) rfl rfl (by decide) (fun x108 hx108 => ?_)
      refine ex_if oq_X11_weeks_40 (t := 71) rfl rfl (fun (c109 : x108.toInt ≤ I.toInt) => ?_) (fun (c109 : ¬ (x108.toInt ≤ I.toInt)) => ?_)
      · refine ex_al oq_X11_weeks_71 g0 ?_
        refine ex_dup oq_X11_weeks_72 rfl ?_
        obtain ⟨x110, ax110, rx110, lx110, ux110⟩ := ri_fld (k := 0) (d := 11) (f := 8) hT rfl rfl rfl
        try dsimp only at lx110 ux110
        refine ex_gf oq_X11_weeks_73 hT (k := 0) (d := 11) rfl rfl ax110 ?_
        have rx110 := (rx110.symm.trans hw : x110.toInt = w)
        refine ex_il oq_X11_weeks_76 g1 ?_
        refine ex_add oq_X11_weeks_77 (by omega) (fun x111 hx111 => ?_)
        refine ex_pfi oq_X11_weeks_78 hT (k := 0) (d := 11) rfl rfl rfl (by omega) (by omega) (fun h112 Th112 wh112 => ?_)
        have Fh112 : cw_Fr cw_Ds cw_sh kk_X11_weeks.2.2.2.2.2.1 h0 h112 := cw_Fr_tr Fh (cw_Fr_wrf wh112 (k := 0) (d := 11) rfl rfl (by decide +kernel))
        have eh112_0_8 : ri_at h112 0 8 = x111.toInt := ri_self wh112
        refine ex_al oq_X11_weeks_81 g0 ?_
        obtain ⟨x113, ax113, rx113, lx113, ux113⟩ := ri_fld (k := 0) (d := 11) (f := 8) Th112 rfl rfl rfl
        try dsimp only at lx113 ux113
        refine ex_gf oq_X11_weeks_82 Th112 (k := 0) (d := 11) rfl rfl ax113 ?_
        have rx113 := (rx113.symm.trans eh112_0_8 : x113.toInt = x111.toInt)
        exact ex_reti oq_X11_weeks_85 rfl (hQ x113 h112 Th112 (pp_fr0 (by decide +kernel) hP Fh112) Fh112 (by omega))
      · exfalso; omega
  | succ u ih =>
    intro i L I h hiu hT Fh hw hI g0 g1 g2
    refine ex_il oq_X11_weeks_23 g2 ?_
    refine ex_al oq_X11_weeks_24 g0 ?_
    obtain ⟨k101, ak101, sk101⟩ := ri_refs (k := 0) (d := 11) (f := 2) hT rfl rfl rfl (by decide)
    refine ex_gf oq_X11_weeks_25 hT (k := 0) (d := 11) rfl rfl ak101 ?_
    obtain ⟨x102, ax102, rx102, lx102, ux102⟩ := ri_fld (k := k101) (d := 4) (f := 9) hT sk101 rfl rfl
    try dsimp only at lx102 ux102
    refine ex_gf oq_X11_weeks_28 hT (k := k101) (d := 4) sk101 rfl ax102 ?_
    refine ex_if oq_X11_weeks_31 (t := 71) rfl rfl (fun (c103 : x102.toInt ≤ I.toInt) => ?_) (fun (c103 : ¬ (x102.toInt ≤ I.toInt)) => ?_)
    · refine ex_al oq_X11_weeks_71 g0 ?_
      refine ex_dup oq_X11_weeks_72 rfl ?_
      obtain ⟨x104, ax104, rx104, lx104, ux104⟩ := ri_fld (k := 0) (d := 11) (f := 8) hT rfl rfl rfl
      try dsimp only at lx104 ux104
      refine ex_gf oq_X11_weeks_73 hT (k := 0) (d := 11) rfl rfl ax104 ?_
      have rx104 := (rx104.symm.trans hw : x104.toInt = w)
      refine ex_il oq_X11_weeks_76 g1 ?_
      refine ex_add oq_X11_weeks_77 (by omega) (fun x105 hx105 => ?_)
      refine ex_pfi oq_X11_weeks_78 hT (k := 0) (d := 11) rfl rfl rfl (by omega) (by omega) (fun h106 Th106 wh106 => ?_)
      have Fh106 : cw_Fr cw_Ds cw_sh kk_X11_weeks.2.2.2.2.2.1 h0 h106 := cw_Fr_tr Fh (cw_Fr_wrf wh106 (k := 0) (d := 11) rfl rfl (by decide +kernel))
      have eh106_0_8 : ri_at h106 0 8 = x105.toInt := ri_self wh106
      refine ex_al oq_X11_weeks_81 g0 ?_
      obtain ⟨x107, ax107, rx107, lx107, ux107⟩ := ri_fld (k := 0) (d := 11) (f := 8) Th106 rfl rfl rfl
      try dsimp only at lx107 ux107
      refine ex_gf oq_X11_weeks_82 Th106 (k := 0) (d := 11) rfl rfl ax107 ?_
      have rx107 := (rx107.symm.trans eh106_0_8 : x107.toInt = x105.toInt)
      exact ex_reti oq_X11_weeks_85 rfl (hQ x107 h106 Th106 (pp_fr0 (by decide +kernel) hP Fh106) Fh106 (by omega))
    · refine ex_il oq_X11_weeks_34 g2 ?_
      refine ex_al oq_X11_weeks_35 g0 ?_
      refine ex_gf oq_X11_weeks_36 hT (k := 0) (d := 11) rfl rfl (ri_ref (k := 0) (k' := 61) (d := 11) (f := 7) hT rfl rfl rfl (by decide) (ri_uniq (by decide +kernel))) ?_
      refine ex_lenr oq_X11_weeks_39 hT (k := 61) (d := 14) rfl rfl (by decide) (fun x108 hx108 => ?_)
      refine ex_if oq_X11_weeks_40 (t := 71) rfl rfl (fun (c109 : x108.toInt ≤ I.toInt) => ?_) (fun (c109 : ¬ (x108.toInt ≤ I.toInt)) => ?_)
      · refine ex_al oq_X11_weeks_71 g0 ?_
        refine ex_dup oq_X11_weeks_72 rfl ?_
        obtain ⟨x110, ax110, rx110, lx110, ux110⟩ := ri_fld (k := 0) (d := 11) (f := 8) hT rfl rfl rfl
        try dsimp only at lx110 ux110
        refine ex_gf oq_X11_weeks_73 hT (k := 0) (d := 11) rfl rfl ax110 ?_
        have rx110 := (rx110.symm.trans hw : x110.toInt = w)
        refine ex_il oq_X11_weeks_76 g1 ?_
        refine ex_add oq_X11_weeks_77 (by omega) (fun x111 hx111 => ?_)
        refine ex_pfi oq_X11_weeks_78 hT (k := 0) (d := 11) rfl rfl rfl (by omega) (by omega) (fun h112 Th112 wh112 => ?_)
        have Fh112 : cw_Fr cw_Ds cw_sh kk_X11_weeks.2.2.2.2.2.1 h0 h112 := cw_Fr_tr Fh (cw_Fr_wrf wh112 (k := 0) (d := 11) rfl rfl (by decide +kernel))
        have eh112_0_8 : ri_at h112 0 8 = x111.toInt := ri_self wh112
        refine ex_al oq_X11_weeks_81 g0 ?_
        obtain ⟨x113, ax113, rx113, lx113, ux113⟩ := ri_fld (k := 0) (d := 11) (f := 8) Th112 rfl rfl rfl
        try dsimp only at lx113 ux113
        refine ex_gf oq_X11_weeks_82 Th112 (k := 0) (d := 11) rfl rfl ax113 ?_
        have rx113 := (rx113.symm.trans eh112_0_8 : x113.toInt = x111.toInt)
        exact ex_reti oq_X11_weeks_85 rfl (hQ x113 h112 Th112 (pp_fr0 (by decide +kernel) hP Fh112) Fh112 (by omega))
      · refine ex_al oq_X11_weeks_43 g0 ?_
        refine ex_gf oq_X11_weeks_44 hT (k := 0) (d := 11) rfl rfl (ri_ref (k := 0) (k' := 55) (d := 11) (f := 5) hT rfl rfl rfl (by decide) (ri_uniq (by decide +kernel))) ?_
        refine ex_al oq_X11_weeks_47 g0 ?_
        obtain ⟨k114, ak114, sk114⟩ := ri_refs (k := 0) (d := 11) (f := 2) hT rfl rfl rfl (by decide)
        refine ex_gf oq_X11_weeks_48 hT (k := 0) (d := 11) rfl rfl ak114 ?_
        refine ex_al oq_X11_weeks_51 g0 ?_
        refine ex_gf oq_X11_weeks_52 hT (k := 0) (d := 11) rfl rfl (ri_ref (k := 0) (k' := 61) (d := 11) (f := 7) hT rfl rfl rfl (by decide) (ri_uniq (by decide +kernel))) ?_
        refine ex_il oq_X11_weeks_55 g2 ?_
        refine ex_aa oq_X11_weeks_56 hT (k := 61) (d := 14) (j := I.toInt.toNat) rfl rfl (by omega) (by omega) (fun k115 ak115 sk115 => ?_)
        refine ex_al oq_X11_weeks_57 g0 ?_
        obtain ⟨x116, ax116, rx116, lx116, ux116⟩ := ri_fld (k := 0) (d := 11) (f := 8) hT rfl rfl rfl
        try dsimp only at lx116 ux116
        refine ex_gf oq_X11_weeks_58 hT (k := 0) (d := 11) rfl rfl ax116 ?_
        have rx116 := (rx116.symm.trans hw : x116.toInt = w)
        refine ex_il oq_X11_weeks_61 g1 ?_
        have Ph : cw_PP G h := pp_fr0 (by decide +kernel) hP Fh
        refine ex_cv oq_X11_weeks_62 (by decide) hT (k := 55) (d := 2) (as := [cv_r k114, cv_r k115, cv_i x116, cv_i n]) (stk := []) rfl rfl rfl rfl rfl rfl ⟨rfl, rfl⟩ (cw_HX hz_X2_pass rfl (cw_Xok_no2 hX) ⟨hT, Ph⟩ ⟨.inl ⟨by decide, 55, rfl, rfl⟩, .inl ⟨by decide, k114, rfl, sk114⟩, .inl ⟨by decide, k115, rfl, sk115⟩, ⟨_, rfl, by show (0 : Int) ≤ _; omega, by show _ ≤ (3100 : Int); omega, cw_tg0⟩, ⟨_, rfl, by show (0 : Int) ≤ _; omega, by show _ ≤ (520 : Int); omega, cw_tg0⟩, trivial⟩ (fun t ht => absurd ht List.not_mem_nil)) (fun ox118 hox118 => ?_)
        obtain ⟨h117, rfl, Th117, Ph117, Ch117⟩ := po_non hox118 rfl
        show cw_X _ _ _ _ _ [] h117
        have Fh117 : cw_Fr cw_Ds cw_sh kk_X11_weeks.2.2.2.2.2.1 h0 h117 := cw_Fr_tr Fh (cw_Fr_mono (by decide +kernel) Ch117)
        have eh117_0_8 : ri_at h117 0 8 = w := (ri_frf Ch117 (k := 0) (d := 11) rfl rfl (by decide +kernel)).trans hw
        refine ex_incA oq_X11_weeks_65 (v := I) (m := 1) g2 (by decide) (by omega) (fun L120 x119 hx119 gL120_2 kL120 => ?_)
        have gL120_0 : cv_get L120 0 = some (cv_r 0) := kL120 0 _ (by decide) (fun q => absurd q (by decide)) g0
        have gL120_1 : cv_get L120 1 = some (cv_i n) := kL120 1 _ (by decide) (fun _ => rfl) g1
        refine ex_go oq_X11_weeks_68 (t := 23) rfl rfl ?_
        exact ih (i + 1) L120 x119 h117 (by omega) Th117 Fh117 eh117_0_8 (by omega) gL120_0 gL120_1 gL120_2
set_option maxHeartbeats 8000000 in
theorem ct_weeks {h0 : cv_H} (hX : cw_Xok X) (hT : cw_T G h0) (hP : cw_PP G h0) (n : Int32) {w : Int} (hw : ri_at h0 0 8 = w) (hQ : ∀ (x : Int32) h', cw_T G h' → cw_PP G h' → cw_Fr cw_Ds cw_sh kk_X11_weeks.2.2.2.2.2.1 h0 h' → ((¬ (0 ≤ n.toInt ∧ n.toInt ≤ 520) ∨ 2000 < w + n.toInt) ∧ x.toInt = -1 ∧ ri_at h' 0 8 = w ∨ ((0 ≤ n.toInt ∧ n.toInt ≤ 520) ∧ w + n.toInt ≤ 2000) ∧ x.toInt = w + n.toInt ∧ ri_at h' 0 8 = w + n.toInt) → Q (some (cv_i x), h')) : cw_X X 121 Q 0 (cv_ent 0 [cv_r 0, cv_i n]) [] h0 := by
  have Fh0 : cw_Fr cw_Ds cw_sh kk_X11_weeks.2.2.2.2.2.1 h0 h0 := cw_Fr_refl
  refine ex_il oq_X11_weeks_0 rfl ?_
  refine ex_cs oq_X11_weeks_1 (by decide) (as := [cv_i n]) (stk := []) rfl rfl rfl ⟨rfl, rfl⟩ (R := fun o => ∃ x : Int32, o = (some (cv_i x), h0) ∧ (x.toInt = 1 ∧ (0 ≤ n.toInt ∧ n.toInt ≤ 520) ∨ x.toInt = 0 ∧ ¬ (0 ≤ n.toInt ∧ n.toInt ≤ 520))) (ct_isAhead n (fun x q => ⟨x, rfl, q⟩)) (fun o ho => ?_)
  obtain ⟨x301, rfl, dx301⟩ := ho
  show cw_X _ _ _ _ _ [cv_i x301] h0
  refine ex_if0 oq_X11_weeks_4 (t := 19) rfl rfl (fun (c302 : x301.toInt = 0) => ?_) (fun (c302 : ¬ (x301.toInt = 0)) => ?_)
  · replace dx301 := bit_n dx301 c302
    refine ex_ic oq_X11_weeks_19 (m := (-1)) (by decide) (fun x303 hx303 => ?_)
    exact ex_reti oq_X11_weeks_20 rfl (hQ x303 h0 hT (pp_fr0 (by decide +kernel) hP Fh0) Fh0 (by omega))
  · replace c302 : ¬ x301.toInt = 0 := by omega
    replace dx301 := bit_y dx301 c302
    refine ex_al oq_X11_weeks_7 rfl ?_
    obtain ⟨x304, ax304, rx304, lx304, ux304⟩ := ri_fld (k := 0) (d := 11) (f := 8) hT rfl rfl rfl
    try dsimp only at lx304 ux304
    refine ex_gf oq_X11_weeks_8 hT (k := 0) (d := 11) rfl rfl ax304 ?_
    have rx304 := (rx304.symm.trans hw : x304.toInt = w)
    refine ex_il oq_X11_weeks_11 rfl ?_
    refine ex_add oq_X11_weeks_12 (by omega) (fun x305 hx305 => ?_)
    refine ex_si oq_X11_weeks_13 (m := 2000) (by decide) (fun x306 hx306 => ?_)
    refine ex_if oq_X11_weeks_16 (t := 21) rfl rfl (fun (c307 : x305.toInt ≤ x306.toInt) => ?_) (fun (c307 : ¬ (x305.toInt ≤ x306.toInt)) => ?_)
    · refine ex_ic oq_X11_weeks_21 (m := 0) (by decide) (fun x308 hx308 => ?_)
      refine ex_isA oq_X11_weeks_22 (fun L309 gL309_2 kL309 => ?_)
      have gL309_0 : cv_get L309 0 = some (cv_r 0) := kL309 0 _ (by decide) (fun q => absurd q (by decide)) rfl
      have gL309_1 : cv_get L309 1 = some (cv_i n) := kL309 1 _ (by decide) (fun _ => rfl) rfl
      exact wk_lp hX hP (w := w) (n := n) (by omega) (by omega) hQ 4 0 L309 x308 h0 (by omega) hT Fh0 hw (by omega) gL309_0 gL309_1 gL309_2
    · refine ex_ic oq_X11_weeks_19 (m := (-1)) (by decide) (fun x310 hx310 => ?_)
      exact ex_reti oq_X11_weeks_20 rfl (hQ x310 h0 hT (pp_fr0 (by decide +kernel) hP Fh0) Fh0 (by omega))
theorem oq_X11_keep_0 : cw_ho 150 0 (.iconst 0) 1 0 0 0 := rfl
theorem oq_X11_keep_1 : cw_ho 150 1 (.istore_n 1) 1 0 0 0 := rfl
theorem oq_X11_keep_2 : cw_ho 150 2 (.iload_n 1) 1 0 0 0 := rfl
theorem oq_X11_keep_3 : cw_ho 150 3 (.iconst 4) 1 0 0 0 := rfl
theorem oq_X11_keep_4 : cw_ho 150 4 (.if_icmp .ge 24) 3 0 0 0 := rfl
theorem oq_X11_keep_7 : cw_ho 150 7 (.aload_n 0) 1 0 0 0 := rfl
theorem oq_X11_keep_8 : cw_ho 150 8 (.getfield 54) 3 11 9 4 := rfl
theorem oq_X11_keep_11 : cw_ho 150 11 (.iload_n 1) 1 0 0 0 := rfl
theorem oq_X11_keep_12 : cw_ho 150 12 (.aaload) 1 0 0 0 := rfl
theorem oq_X11_keep_13 : cw_ho 150 13 (.aload_n 0) 1 0 0 0 := rfl
theorem oq_X11_keep_14 : cw_ho 150 14 (.getfield 50) 3 11 7 4 := rfl
theorem oq_X11_keep_17 : cw_ho 150 17 (.iload_n 1) 1 0 0 0 := rfl
theorem oq_X11_keep_18 : cw_ho 150 18 (.aaload) 1 0 0 0 := rfl
theorem oq_X11_keep_19 : cw_ho 150 19 (.invokevirtual 286) 3 16 1 1 := rfl
theorem oq_X11_keep_22 : cw_ho 150 22 (.iinc 1 1) 3 0 0 0 := rfl
theorem oq_X11_keep_25 : cw_ho 150 25 (.goto (-23)) 3 0 0 0 := rfl
theorem oq_X11_keep_28 : cw_ho 150 28 (.aload_n 0) 1 0 0 0 := rfl
theorem oq_X11_keep_29 : cw_ho 150 29 (.aload_n 0) 1 0 0 0 := rfl
theorem oq_X11_keep_30 : cw_ho 150 30 (.getfield 117) 3 11 8 0 := rfl
theorem oq_X11_keep_33 : cw_ho 150 33 (.putfield 57) 3 11 10 0 := rfl
theorem oq_X11_keep_36 : cw_ho 150 36 (.aload_n 0) 1 0 0 0 := rfl
theorem oq_X11_keep_37 : cw_ho 150 37 (.getfield 117) 3 11 8 0 := rfl
theorem oq_X11_keep_40 : cw_ho 150 40 (.ireturn) 1 0 0 0 := rfl
set_option maxHeartbeats 8000000 in
theorem ct_keep {h0 : cv_H} (hX : cw_Xok X) (hT : cw_T G h0) (hP : cw_PP G h0) {w im : Int} (hw : ri_at h0 0 8 = w) (him : ri_at h0 0 10 = im) (hQ : ∀ (x : Int32) h', cw_T G h' → cw_PP G h' → cw_Fr cw_Ds cw_sh kk_X11_keep.2.2.2.2.2.1 h0 h' → (x.toInt = w ∧ ri_at h' 0 8 = w ∧ ri_at h' 0 10 = w) → Q (some (cv_i x), h')) : cw_X X 150 Q 0 (cv_ent 0 [cv_r 0]) [] h0 := by
  have Fh0 : cw_Fr cw_Ds cw_sh kk_X11_keep.2.2.2.2.2.1 h0 h0 := cw_Fr_refl
  refine ex_ic oq_X11_keep_0 (m := 0) (by decide) (fun x101 hx101 => ?_)
  refine ex_isA oq_X11_keep_1 (fun L102 gL102_1 kL102 => ?_)
  have gL102_0 : cv_get L102 0 = some (cv_r 0) := kL102 0 _ (by decide) (fun _ => rfl) rfl
  refine ex_il oq_X11_keep_2 gL102_1 ?_
  refine ex_ic oq_X11_keep_3 (m := 4) (by decide) (fun x103 hx103 => ?_)
  refine ex_if oq_X11_keep_4 (t := 28) rfl rfl (fun (c104 : x103.toInt ≤ x101.toInt) => ?_) (fun (c104 : ¬ (x103.toInt ≤ x101.toInt)) => ?_)
  · exfalso; omega
  · refine ex_al oq_X11_keep_7 gL102_0 ?_
    refine ex_gf oq_X11_keep_8 hT (k := 0) (d := 11) rfl rfl (ri_ref (k := 0) (k' := 62) (d := 11) (f := 9) hT rfl rfl rfl (by decide) (ri_uniq (by decide +kernel))) ?_
    refine ex_il oq_X11_keep_11 gL102_1 ?_
    refine ex_aa oq_X11_keep_12 hT (k := 62) (d := 15) (j := x101.toInt.toNat) rfl rfl (by omega) (by omega) (fun k105 ak105 sk105 => ?_)
    refine ex_al oq_X11_keep_13 gL102_0 ?_
    refine ex_gf oq_X11_keep_14 hT (k := 0) (d := 11) rfl rfl (ri_ref (k := 0) (k' := 61) (d := 11) (f := 7) hT rfl rfl rfl (by decide) (ri_uniq (by decide +kernel))) ?_
    refine ex_il oq_X11_keep_17 gL102_1 ?_
    refine ex_aa oq_X11_keep_18 hT (k := 61) (d := 14) (j := x101.toInt.toNat) rfl rfl (by omega) (by omega) (fun k106 ak106 sk106 => ?_)
    have Ph0 : cw_PP G h0 := pp_fr0 (by decide +kernel) hP Fh0
    refine ex_cv oq_X11_keep_19 (by decide) hT (k := k105) (d := 1) (as := [cv_r k106]) (stk := []) sk105 rfl rfl rfl rfl rfl ⟨rfl, rfl⟩ (cw_HX hz_X1_copy rfl (cw_Xok_no2 hX) ⟨hT, Ph0⟩ ⟨.inl ⟨by decide, k105, rfl, sk105⟩, .inl ⟨by decide, k106, rfl, sk106⟩, trivial⟩ (fun t ht => absurd ht List.not_mem_nil)) (fun ox108 hox108 => ?_)
    obtain ⟨h107, rfl, Th107, Ph107, Ch107⟩ := po_non hox108 rfl
    show cw_X _ _ _ _ _ [] h107
    have Fh107 : cw_Fr cw_Ds cw_sh kk_X11_keep.2.2.2.2.2.1 h0 h107 := cw_Fr_tr Fh0 (cw_Fr_mono (by decide +kernel) Ch107)
    have eh107_0_8 : ri_at h107 0 8 = w := (ri_frf Ch107 (k := 0) (d := 11) rfl rfl (by decide +kernel)).trans hw
    have eh107_0_10 : ri_at h107 0 10 = ri_at h0 0 10 := ri_frf Ch107 (k := 0) (d := 11) rfl rfl (by decide +kernel)
    refine ex_incA oq_X11_keep_22 (v := x101) (m := 1) gL102_1 (by decide) (by omega) (fun L110 x109 hx109 gL110_1 kL110 => ?_)
    have gL110_0 : cv_get L110 0 = some (cv_r 0) := kL110 0 _ (by decide) (fun _ => rfl) gL102_0
    refine ex_go oq_X11_keep_25 (t := 2) rfl rfl ?_
    refine ex_il oq_X11_keep_2 gL110_1 ?_
    refine ex_ic oq_X11_keep_3 (m := 4) (by decide) (fun x111 hx111 => ?_)
    refine ex_if oq_X11_keep_4 (t := 28) rfl rfl (fun (c112 : x111.toInt ≤ x109.toInt) => ?_) (fun (c112 : ¬ (x111.toInt ≤ x109.toInt)) => ?_)
    · exfalso; omega
    · refine ex_al oq_X11_keep_7 gL110_0 ?_
      refine ex_gf oq_X11_keep_8 Th107 (k := 0) (d := 11) rfl rfl (ri_ref (k := 0) (k' := 62) (d := 11) (f := 9) Th107 rfl rfl rfl (by decide) (ri_uniq (by decide +kernel))) ?_
      refine ex_il oq_X11_keep_11 gL110_1 ?_
      refine ex_aa oq_X11_keep_12 Th107 (k := 62) (d := 15) (j := x109.toInt.toNat) rfl rfl (by omega) (by omega) (fun k113 ak113 sk113 => ?_)
      refine ex_al oq_X11_keep_13 gL110_0 ?_
      refine ex_gf oq_X11_keep_14 Th107 (k := 0) (d := 11) rfl rfl (ri_ref (k := 0) (k' := 61) (d := 11) (f := 7) Th107 rfl rfl rfl (by decide) (ri_uniq (by decide +kernel))) ?_
      refine ex_il oq_X11_keep_17 gL110_1 ?_
      refine ex_aa oq_X11_keep_18 Th107 (k := 61) (d := 14) (j := x109.toInt.toNat) rfl rfl (by omega) (by omega) (fun k114 ak114 sk114 => ?_)
      have Ph107 : cw_PP G h107 := pp_fr0 (by decide +kernel) hP Fh107
      refine ex_cv oq_X11_keep_19 (by decide) Th107 (k := k113) (d := 1) (as := [cv_r k114]) (stk := []) sk113 rfl rfl rfl rfl rfl ⟨rfl, rfl⟩ (cw_HX hz_X1_copy rfl (cw_Xok_no2 hX) ⟨Th107, Ph107⟩ ⟨.inl ⟨by decide, k113, rfl, sk113⟩, .inl ⟨by decide, k114, rfl, sk114⟩, trivial⟩ (fun t ht => absurd ht List.not_mem_nil)) (fun ox116 hox116 => ?_)
      obtain ⟨h115, rfl, Th115, Ph115, Ch115⟩ := po_non hox116 rfl
      show cw_X _ _ _ _ _ [] h115
      have Fh115 : cw_Fr cw_Ds cw_sh kk_X11_keep.2.2.2.2.2.1 h0 h115 := cw_Fr_tr Fh107 (cw_Fr_mono (by decide +kernel) Ch115)
      have eh115_0_8 : ri_at h115 0 8 = w := (ri_frf Ch115 (k := 0) (d := 11) rfl rfl (by decide +kernel)).trans eh107_0_8
      clear eh107_0_8
      have eh115_0_10 : ri_at h115 0 10 = ri_at h0 0 10 := (ri_frf Ch115 (k := 0) (d := 11) rfl rfl (by decide +kernel)).trans eh107_0_10
      clear eh107_0_10
      refine ex_incA oq_X11_keep_22 (v := x109) (m := 1) gL110_1 (by decide) (by omega) (fun L118 x117 hx117 gL118_1 kL118 => ?_)
      have gL118_0 : cv_get L118 0 = some (cv_r 0) := kL118 0 _ (by decide) (fun _ => rfl) gL110_0
      refine ex_go oq_X11_keep_25 (t := 2) rfl rfl ?_
      refine ex_il oq_X11_keep_2 gL118_1 ?_
      refine ex_ic oq_X11_keep_3 (m := 4) (by decide) (fun x119 hx119 => ?_)
      refine ex_if oq_X11_keep_4 (t := 28) rfl rfl (fun (c120 : x119.toInt ≤ x117.toInt) => ?_) (fun (c120 : ¬ (x119.toInt ≤ x117.toInt)) => ?_)
      · exfalso; omega
      · refine ex_al oq_X11_keep_7 gL118_0 ?_
        refine ex_gf oq_X11_keep_8 Th115 (k := 0) (d := 11) rfl rfl (ri_ref (k := 0) (k' := 62) (d := 11) (f := 9) Th115 rfl rfl rfl (by decide) (ri_uniq (by decide +kernel))) ?_
        refine ex_il oq_X11_keep_11 gL118_1 ?_
        refine ex_aa oq_X11_keep_12 Th115 (k := 62) (d := 15) (j := x117.toInt.toNat) rfl rfl (by omega) (by omega) (fun k121 ak121 sk121 => ?_)
        refine ex_al oq_X11_keep_13 gL118_0 ?_
        refine ex_gf oq_X11_keep_14 Th115 (k := 0) (d := 11) rfl rfl (ri_ref (k := 0) (k' := 61) (d := 11) (f := 7) Th115 rfl rfl rfl (by decide) (ri_uniq (by decide +kernel))) ?_
        refine ex_il oq_X11_keep_17 gL118_1 ?_
        refine ex_aa oq_X11_keep_18 Th115 (k := 61) (d := 14) (j := x117.toInt.toNat) rfl rfl (by omega) (by omega) (fun k122 ak122 sk122 => ?_)
        have Ph115 : cw_PP G h115 := pp_fr0 (by decide +kernel) hP Fh115
        refine ex_cv oq_X11_keep_19 (by decide) Th115 (k := k121) (d := 1) (as := [cv_r k122]) (stk := []) sk121 rfl rfl rfl rfl rfl ⟨rfl, rfl⟩ (cw_HX hz_X1_copy rfl (cw_Xok_no2 hX) ⟨Th115, Ph115⟩ ⟨.inl ⟨by decide, k121, rfl, sk121⟩, .inl ⟨by decide, k122, rfl, sk122⟩, trivial⟩ (fun t ht => absurd ht List.not_mem_nil)) (fun ox124 hox124 => ?_)
        obtain ⟨h123, rfl, Th123, Ph123, Ch123⟩ := po_non hox124 rfl
        show cw_X _ _ _ _ _ [] h123
        have Fh123 : cw_Fr cw_Ds cw_sh kk_X11_keep.2.2.2.2.2.1 h0 h123 := cw_Fr_tr Fh115 (cw_Fr_mono (by decide +kernel) Ch123)
        have eh123_0_8 : ri_at h123 0 8 = w := (ri_frf Ch123 (k := 0) (d := 11) rfl rfl (by decide +kernel)).trans eh115_0_8
        clear eh115_0_8
        have eh123_0_10 : ri_at h123 0 10 = ri_at h0 0 10 := (ri_frf Ch123 (k := 0) (d := 11) rfl rfl (by decide +kernel)).trans eh115_0_10
        clear eh115_0_10
        refine ex_incA oq_X11_keep_22 (v := x117) (m := 1) gL118_1 (by decide) (by omega) (fun L126 x125 hx125 gL126_1 kL126 => ?_)
        have gL126_0 : cv_get L126 0 = some (cv_r 0) := kL126 0 _ (by decide) (fun _ => rfl) gL118_0
        refine ex_go oq_X11_keep_25 (t := 2) rfl rfl ?_
        refine ex_il oq_X11_keep_2 gL126_1 ?_
        refine ex_ic oq_X11_keep_3 (m := 4) (by decide) (fun x127 hx127 => ?_)
        refine ex_if oq_X11_keep_4 (t := 28) rfl rfl (fun (c128 : x127.toInt ≤ x125.toInt) => ?_) (fun (c128 : ¬ (x127.toInt ≤ x125.toInt)) => ?_)
        · exfalso; omega
        · refine ex_al oq_X11_keep_7 gL126_0 ?_
          refine ex_gf oq_X11_keep_8 Th123 (k := 0) (d := 11) rfl rfl (ri_ref (k := 0) (k' := 62) (d := 11) (f := 9) Th123 rfl rfl rfl (by decide) (ri_uniq (by decide +kernel))) ?_
          refine ex_il oq_X11_keep_11 gL126_1 ?_
          refine ex_aa oq_X11_keep_12 Th123 (k := 62) (d := 15) (j := x125.toInt.toNat) rfl rfl (by omega) (by omega) (fun k129 ak129 sk129 => ?_)
          refine ex_al oq_X11_keep_13 gL126_0 ?_
          refine ex_gf oq_X11_keep_14 Th123 (k := 0) (d := 11) rfl rfl (ri_ref (k := 0) (k' := 61) (d := 11) (f := 7) Th123 rfl rfl rfl (by decide) (ri_uniq (by decide +kernel))) ?_
          refine ex_il oq_X11_keep_17 gL126_1 ?_
          refine ex_aa oq_X11_keep_18 Th123 (k := 61) (d := 14) (j := x125.toInt.toNat) rfl rfl (by omega) (by omega) (fun k130 ak130 sk130 => ?_)
          have Ph123 : cw_PP G h123 := pp_fr0 (by decide +kernel) hP Fh123
          refine ex_cv oq_X11_keep_19 (by decide) Th123 (k := k129) (d := 1) (as := [cv_r k130]) (stk := []) sk129 rfl rfl rfl rfl rfl ⟨rfl, rfl⟩ (cw_HX hz_X1_copy rfl (cw_Xok_no2 hX) ⟨Th123, Ph123⟩ ⟨.inl ⟨by decide, k129, rfl, sk129⟩, .inl ⟨by decide, k130, rfl, sk130⟩, trivial⟩ (fun t ht => absurd ht List.not_mem_nil)) (fun ox132 hox132 => ?_)
          obtain ⟨h131, rfl, Th131, Ph131, Ch131⟩ := po_non hox132 rfl
          show cw_X _ _ _ _ _ [] h131
          have Fh131 : cw_Fr cw_Ds cw_sh kk_X11_keep.2.2.2.2.2.1 h0 h131 := cw_Fr_tr Fh123 (cw_Fr_mono (by decide +kernel) Ch131)
          have eh131_0_8 : ri_at h131 0 8 = w := (ri_frf Ch131 (k := 0) (d := 11) rfl rfl (by decide +kernel)).trans eh123_0_8
          clear eh123_0_8
          have eh131_0_10 : ri_at h131 0 10 = ri_at h0 0 10 := (ri_frf Ch131 (k := 0) (d := 11) rfl rfl (by decide +kernel)).trans eh123_0_10
          clear eh123_0_10
          refine ex_incA oq_X11_keep_22 (v := x125) (m := 1) gL126_1 (by decide) (by omega) (fun L134 x133 hx133 gL134_1 kL134 => ?_)
          have gL134_0 : cv_get L134 0 = some (cv_r 0) := kL134 0 _ (by decide) (fun _ => rfl) gL126_0
          refine ex_go oq_X11_keep_25 (t := 2) rfl rfl ?_
          refine ex_il oq_X11_keep_2 gL134_1 ?_
          refine ex_ic oq_X11_keep_3 (m := 4) (by decide) (fun x135 hx135 => ?_)
          refine ex_if oq_X11_keep_4 (t := 28) rfl rfl (fun (c136 : x135.toInt ≤ x133.toInt) => ?_) (fun (c136 : ¬ (x135.toInt ≤ x133.toInt)) => ?_)
          · refine ex_al oq_X11_keep_28 gL134_0 ?_
            refine ex_al oq_X11_keep_29 gL134_0 ?_
            obtain ⟨x137, ax137, rx137, lx137, ux137⟩ := ri_fld (k := 0) (d := 11) (f := 8) Th131 rfl rfl rfl
            try dsimp only at lx137 ux137
            refine ex_gf oq_X11_keep_30 Th131 (k := 0) (d := 11) rfl rfl ax137 ?_
            have rx137 := (rx137.symm.trans eh131_0_8 : x137.toInt = w)
            refine ex_pfi oq_X11_keep_33 Th131 (k := 0) (d := 11) rfl rfl rfl (by omega) (by omega) (fun h138 Th138 wh138 => ?_)
            have Fh138 : cw_Fr cw_Ds cw_sh kk_X11_keep.2.2.2.2.2.1 h0 h138 := cw_Fr_tr Fh131 (cw_Fr_wrf wh138 (k := 0) (d := 11) rfl rfl (by decide +kernel))
            have eh138_0_8 : ri_at h138 0 8 = w := (ri_ne wh138 (.inr (by decide))).trans eh131_0_8
            clear eh131_0_8
            have eh138_0_10 : ri_at h138 0 10 = x137.toInt := ri_self wh138
            refine ex_al oq_X11_keep_36 gL134_0 ?_
            obtain ⟨x139, ax139, rx139, lx139, ux139⟩ := ri_fld (k := 0) (d := 11) (f := 8) Th138 rfl rfl rfl
            try dsimp only at lx139 ux139
            refine ex_gf oq_X11_keep_37 Th138 (k := 0) (d := 11) rfl rfl ax139 ?_
            have rx139 := (rx139.symm.trans eh138_0_8 : x139.toInt = w)
            exact ex_reti oq_X11_keep_40 rfl (hQ x139 h138 Th138 (pp_fr0 (by decide +kernel) hP Fh138) Fh138 (by omega))
          · exfalso; omega
theorem oq_X11_back_0 : cw_ho 151 0 (.aload_n 0) 1 0 0 0 := rfl
theorem oq_X11_back_1 : cw_ho 151 1 (.getfield 57) 3 11 10 0 := rfl
theorem oq_X11_back_4 : cw_ho 151 4 (.iconst (-1)) 1 0 0 0 := rfl
theorem oq_X11_back_5 : cw_ho 151 5 (.if_icmp .ne 5) 3 0 0 0 := rfl
theorem oq_X11_back_8 : cw_ho 151 8 (.iconst (-1)) 1 0 0 0 := rfl
theorem oq_X11_back_9 : cw_ho 151 9 (.ireturn) 1 0 0 0 := rfl
theorem oq_X11_back_10 : cw_ho 151 10 (.iconst 0) 1 0 0 0 := rfl
theorem oq_X11_back_11 : cw_ho 151 11 (.istore_n 1) 1 0 0 0 := rfl
theorem oq_X11_back_12 : cw_ho 151 12 (.iload_n 1) 1 0 0 0 := rfl
theorem oq_X11_back_13 : cw_ho 151 13 (.iconst 4) 1 0 0 0 := rfl
theorem oq_X11_back_14 : cw_ho 151 14 (.if_icmp .ge 24) 3 0 0 0 := rfl
theorem oq_X11_back_17 : cw_ho 151 17 (.aload_n 0) 1 0 0 0 := rfl
theorem oq_X11_back_18 : cw_ho 151 18 (.getfield 50) 3 11 7 4 := rfl
theorem oq_X11_back_21 : cw_ho 151 21 (.iload_n 1) 1 0 0 0 := rfl
theorem oq_X11_back_22 : cw_ho 151 22 (.aaload) 1 0 0 0 := rfl
theorem oq_X11_back_23 : cw_ho 151 23 (.aload_n 0) 1 0 0 0 := rfl
theorem oq_X11_back_24 : cw_ho 151 24 (.getfield 54) 3 11 9 4 := rfl
theorem oq_X11_back_27 : cw_ho 151 27 (.iload_n 1) 1 0 0 0 := rfl
theorem oq_X11_back_28 : cw_ho 151 28 (.aaload) 1 0 0 0 := rfl
theorem oq_X11_back_29 : cw_ho 151 29 (.invokevirtual 286) 3 16 1 1 := rfl
theorem oq_X11_back_32 : cw_ho 151 32 (.iinc 1 1) 3 0 0 0 := rfl
theorem oq_X11_back_35 : cw_ho 151 35 (.goto (-23)) 3 0 0 0 := rfl
theorem oq_X11_back_38 : cw_ho 151 38 (.aload_n 0) 1 0 0 0 := rfl
theorem oq_X11_back_39 : cw_ho 151 39 (.aload_n 0) 1 0 0 0 := rfl
theorem oq_X11_back_40 : cw_ho 151 40 (.getfield 57) 3 11 10 0 := rfl
theorem oq_X11_back_43 : cw_ho 151 43 (.putfield 117) 3 11 8 0 := rfl
theorem oq_X11_back_46 : cw_ho 151 46 (.aload_n 0) 1 0 0 0 := rfl
theorem oq_X11_back_47 : cw_ho 151 47 (.getfield 66) 3 11 11 4 := rfl
theorem oq_X11_back_50 : cw_ho 151 50 (.invokevirtual 120) 3 101 0 10 := rfl
theorem oq_X11_back_53 : cw_ho 151 53 (.aload_n 0) 1 0 0 0 := rfl
theorem oq_X11_back_54 : cw_ho 151 54 (.getfield 117) 3 11 8 0 := rfl
theorem oq_X11_back_57 : cw_ho 151 57 (.ireturn) 1 0 0 0 := rfl
set_option maxHeartbeats 8000000 in
theorem ct_back {h0 : cv_H} (hX : cw_Xok X) (hT : cw_T G h0) (hP : cw_PP G h0) {w im : Int} (hw : ri_at h0 0 8 = w) (him : ri_at h0 0 10 = im) (hQ : ∀ (x : Int32) h', cw_T G h' → cw_PP G h' → cw_Fr cw_Ds cw_sh kk_X11_back.2.2.2.2.2.1 h0 h' → (im = -1 ∧ x.toInt = -1 ∧ ri_at h' 0 8 = w ∧ ri_at h' 0 10 = im ∨ ¬ im = -1 ∧ x.toInt = im ∧ ri_at h' 0 8 = im ∧ ri_at h' 0 10 = im) → Q (some (cv_i x), h')) : cw_X X 151 Q 0 (cv_ent 0 [cv_r 0]) [] h0 := by
  have Fh0 : cw_Fr cw_Ds cw_sh kk_X11_back.2.2.2.2.2.1 h0 h0 := cw_Fr_refl
  refine ex_al oq_X11_back_0 rfl ?_
  obtain ⟨x101, ax101, rx101, lx101, ux101⟩ := ri_fld (k := 0) (d := 11) (f := 10) hT rfl rfl rfl
  try dsimp only at lx101 ux101
  refine ex_gf oq_X11_back_1 hT (k := 0) (d := 11) rfl rfl ax101 ?_
  have rx101 := (rx101.symm.trans him : x101.toInt = im)
  refine ex_ic oq_X11_back_4 (m := (-1)) (by decide) (fun x102 hx102 => ?_)
  refine ex_if oq_X11_back_5 (t := 10) rfl rfl (fun (c103 : ¬ x101.toInt = x102.toInt) => ?_) (fun (c103 : ¬ (¬ x101.toInt = x102.toInt)) => ?_)
  · refine ex_ic oq_X11_back_10 (m := 0) (by decide) (fun x104 hx104 => ?_)
    refine ex_isA oq_X11_back_11 (fun L105 gL105_1 kL105 => ?_)
    have gL105_0 : cv_get L105 0 = some (cv_r 0) := kL105 0 _ (by decide) (fun _ => rfl) rfl
    refine ex_il oq_X11_back_12 gL105_1 ?_
    refine ex_ic oq_X11_back_13 (m := 4) (by decide) (fun x106 hx106 => ?_)
    refine ex_if oq_X11_back_14 (t := 38) rfl rfl (fun (c107 : x106.toInt ≤ x104.toInt) => ?_) (fun (c107 : ¬ (x106.toInt ≤ x104.toInt)) => ?_)
    · exfalso; omega
    · refine ex_al oq_X11_back_17 gL105_0 ?_
      refine ex_gf oq_X11_back_18 hT (k := 0) (d := 11) rfl rfl (ri_ref (k := 0) (k' := 61) (d := 11) (f := 7) hT rfl rfl rfl (by decide) (ri_uniq (by decide +kernel))) ?_
      refine ex_il oq_X11_back_21 gL105_1 ?_
      refine ex_aa oq_X11_back_22 hT (k := 61) (d := 14) (j := x104.toInt.toNat) rfl rfl (by omega) (by omega) (fun k108 ak108 sk108 => ?_)
      refine ex_al oq_X11_back_23 gL105_0 ?_
      refine ex_gf oq_X11_back_24 hT (k := 0) (d := 11) rfl rfl (ri_ref (k := 0) (k' := 62) (d := 11) (f := 9) hT rfl rfl rfl (by decide) (ri_uniq (by decide +kernel))) ?_
      refine ex_il oq_X11_back_27 gL105_1 ?_
      refine ex_aa oq_X11_back_28 hT (k := 62) (d := 15) (j := x104.toInt.toNat) rfl rfl (by omega) (by omega) (fun k109 ak109 sk109 => ?_)
      have Ph0 : cw_PP G h0 := pp_fr0 (by decide +kernel) hP Fh0
      refine ex_cv oq_X11_back_29 (by decide) hT (k := k108) (d := 1) (as := [cv_r k109]) (stk := []) sk108 rfl rfl rfl rfl rfl ⟨rfl, rfl⟩ (cw_HX hz_X1_copy rfl (cw_Xok_no2 hX) ⟨hT, Ph0⟩ ⟨.inl ⟨by decide, k108, rfl, sk108⟩, .inl ⟨by decide, k109, rfl, sk109⟩, trivial⟩ (fun t ht => absurd ht List.not_mem_nil)) (fun ox111 hox111 => ?_)
      obtain ⟨h110, rfl, Th110, Ph110, Ch110⟩ := po_non hox111 rfl
      show cw_X _ _ _ _ _ [] h110
      have Fh110 : cw_Fr cw_Ds cw_sh kk_X11_back.2.2.2.2.2.1 h0 h110 := cw_Fr_tr Fh0 (cw_Fr_mono (by decide +kernel) Ch110)
      have eh110_0_8 : ri_at h110 0 8 = w := (ri_frf Ch110 (k := 0) (d := 11) rfl rfl (by decide +kernel)).trans hw
      have eh110_0_10 : ri_at h110 0 10 = im := (ri_frf Ch110 (k := 0) (d := 11) rfl rfl (by decide +kernel)).trans him
      refine ex_incA oq_X11_back_32 (v := x104) (m := 1) gL105_1 (by decide) (by omega) (fun L113 x112 hx112 gL113_1 kL113 => ?_)
      have gL113_0 : cv_get L113 0 = some (cv_r 0) := kL113 0 _ (by decide) (fun _ => rfl) gL105_0
      refine ex_go oq_X11_back_35 (t := 12) rfl rfl ?_
      refine ex_il oq_X11_back_12 gL113_1 ?_
      refine ex_ic oq_X11_back_13 (m := 4) (by decide) (fun x114 hx114 => ?_)
      refine ex_if oq_X11_back_14 (t := 38) rfl rfl (fun (c115 : x114.toInt ≤ x112.toInt) => ?_) (fun (c115 : ¬ (x114.toInt ≤ x112.toInt)) => ?_)
      · exfalso; omega
      · refine ex_al oq_X11_back_17 gL113_0 ?_
        refine ex_gf oq_X11_back_18 Th110 (k := 0) (d := 11) rfl rfl (ri_ref (k := 0) (k' := 61) (d := 11) (f := 7) Th110 rfl rfl rfl (by decide) (ri_uniq (by decide +kernel))) ?_
        refine ex_il oq_X11_back_21 gL113_1 ?_
        refine ex_aa oq_X11_back_22 Th110 (k := 61) (d := 14) (j := x112.toInt.toNat) rfl rfl (by omega) (by omega) (fun k116 ak116 sk116 => ?_)
        refine ex_al oq_X11_back_23 gL113_0 ?_
        refine ex_gf oq_X11_back_24 Th110 (k := 0) (d := 11) rfl rfl (ri_ref (k := 0) (k' := 62) (d := 11) (f := 9) Th110 rfl rfl rfl (by decide) (ri_uniq (by decide +kernel))) ?_
        refine ex_il oq_X11_back_27 gL113_1 ?_
        refine ex_aa oq_X11_back_28 Th110 (k := 62) (d := 15) (j := x112.toInt.toNat) rfl rfl (by omega) (by omega) (fun k117 ak117 sk117 => ?_)
        have Ph110 : cw_PP G h110 := pp_fr0 (by decide +kernel) hP Fh110
        refine ex_cv oq_X11_back_29 (by decide) Th110 (k := k116) (d := 1) (as := [cv_r k117]) (stk := []) sk116 rfl rfl rfl rfl rfl ⟨rfl, rfl⟩ (cw_HX hz_X1_copy rfl (cw_Xok_no2 hX) ⟨Th110, Ph110⟩ ⟨.inl ⟨by decide, k116, rfl, sk116⟩, .inl ⟨by decide, k117, rfl, sk117⟩, trivial⟩ (fun t ht => absurd ht List.not_mem_nil)) (fun ox119 hox119 => ?_)
        obtain ⟨h118, rfl, Th118, Ph118, Ch118⟩ := po_non hox119 rfl
        show cw_X _ _ _ _ _ [] h118
        have Fh118 : cw_Fr cw_Ds cw_sh kk_X11_back.2.2.2.2.2.1 h0 h118 := cw_Fr_tr Fh110 (cw_Fr_mono (by decide +kernel) Ch118)
        have eh118_0_8 : ri_at h118 0 8 = w := (ri_frf Ch118 (k := 0) (d := 11) rfl rfl (by decide +kernel)).trans eh110_0_8
        clear eh110_0_8
        have eh118_0_10 : ri_at h118 0 10 = im := (ri_frf Ch118 (k := 0) (d := 11) rfl rfl (by decide +kernel)).trans eh110_0_10
        clear eh110_0_10
        refine ex_incA oq_X11_back_32 (v := x112) (m := 1) gL113_1 (by decide) (by omega) (fun L121 x120 hx120 gL121_1 kL121 => ?_)
        have gL121_0 : cv_get L121 0 = some (cv_r 0) := kL121 0 _ (by decide) (fun _ => rfl) gL113_0
        refine ex_go oq_X11_back_35 (t := 12) rfl rfl ?_
        refine ex_il oq_X11_back_12 gL121_1 ?_
        refine ex_ic oq_X11_back_13 (m := 4) (by decide) (fun x122 hx122 => ?_)
        refine ex_if oq_X11_back_14 (t := 38) rfl rfl (fun (c123 : x122.toInt ≤ x120.toInt) => ?_) (fun (c123 : ¬ (x122.toInt ≤ x120.toInt)) => ?_)
        · exfalso; omega
        · refine ex_al oq_X11_back_17 gL121_0 ?_
          refine ex_gf oq_X11_back_18 Th118 (k := 0) (d := 11) rfl rfl (ri_ref (k := 0) (k' := 61) (d := 11) (f := 7) Th118 rfl rfl rfl (by decide) (ri_uniq (by decide +kernel))) ?_
          refine ex_il oq_X11_back_21 gL121_1 ?_
          refine ex_aa oq_X11_back_22 Th118 (k := 61) (d := 14) (j := x120.toInt.toNat) rfl rfl (by omega) (by omega) (fun k124 ak124 sk124 => ?_)
          refine ex_al oq_X11_back_23 gL121_0 ?_
          refine ex_gf oq_X11_back_24 Th118 (k := 0) (d := 11) rfl rfl (ri_ref (k := 0) (k' := 62) (d := 11) (f := 9) Th118 rfl rfl rfl (by decide) (ri_uniq (by decide +kernel))) ?_
          refine ex_il oq_X11_back_27 gL121_1 ?_
          refine ex_aa oq_X11_back_28 Th118 (k := 62) (d := 15) (j := x120.toInt.toNat) rfl rfl (by omega) (by omega) (fun k125 ak125 sk125 => ?_)
          have Ph118 : cw_PP G h118 := pp_fr0 (by decide +kernel) hP Fh118
          refine ex_cv oq_X11_back_29 (by decide) Th118 (k := k124) (d := 1) (as := [cv_r k125]) (stk := []) sk124 rfl rfl rfl rfl rfl ⟨rfl, rfl⟩ (cw_HX hz_X1_copy rfl (cw_Xok_no2 hX) ⟨Th118, Ph118⟩ ⟨.inl ⟨by decide, k124, rfl, sk124⟩, .inl ⟨by decide, k125, rfl, sk125⟩, trivial⟩ (fun t ht => absurd ht List.not_mem_nil)) (fun ox127 hox127 => ?_)
          obtain ⟨h126, rfl, Th126, Ph126, Ch126⟩ := po_non hox127 rfl
          show cw_X _ _ _ _ _ [] h126
          have Fh126 : cw_Fr cw_Ds cw_sh kk_X11_back.2.2.2.2.2.1 h0 h126 := cw_Fr_tr Fh118 (cw_Fr_mono (by decide +kernel) Ch126)
          have eh126_0_8 : ri_at h126 0 8 = w := (ri_frf Ch126 (k := 0) (d := 11) rfl rfl (by decide +kernel)).trans eh118_0_8
          clear eh118_0_8
          have eh126_0_10 : ri_at h126 0 10 = im := (ri_frf Ch126 (k := 0) (d := 11) rfl rfl (by decide +kernel)).trans eh118_0_10
          clear eh118_0_10
          refine ex_incA oq_X11_back_32 (v := x120) (m := 1) gL121_1 (by decide) (by omega) (fun L129 x128 hx128 gL129_1 kL129 => ?_)
          have gL129_0 : cv_get L129 0 = some (cv_r 0) := kL129 0 _ (by decide) (fun _ => rfl) gL121_0
          refine ex_go oq_X11_back_35 (t := 12) rfl rfl ?_
          refine ex_il oq_X11_back_12 gL129_1 ?_
          refine ex_ic oq_X11_back_13 (m := 4) (by decide) (fun x130 hx130 => ?_)
          refine ex_if oq_X11_back_14 (t := 38) rfl rfl (fun (c131 : x130.toInt ≤ x128.toInt) => ?_) (fun (c131 : ¬ (x130.toInt ≤ x128.toInt)) => ?_)
          · exfalso; omega
          · refine ex_al oq_X11_back_17 gL129_0 ?_
            refine ex_gf oq_X11_back_18 Th126 (k := 0) (d := 11) rfl rfl (ri_ref (k := 0) (k' := 61) (d := 11) (f := 7) Th126 rfl rfl rfl (by decide) (ri_uniq (by decide +kernel))) ?_
            refine ex_il oq_X11_back_21 gL129_1 ?_
            refine ex_aa oq_X11_back_22 Th126 (k := 61) (d := 14) (j := x128.toInt.toNat) rfl rfl (by omega) (by omega) (fun k132 ak132 sk132 => ?_)
            refine ex_al oq_X11_back_23 gL129_0 ?_
            refine ex_gf oq_X11_back_24 Th126 (k := 0) (d := 11) rfl rfl (ri_ref (k := 0) (k' := 62) (d := 11) (f := 9) Th126 rfl rfl rfl (by decide) (ri_uniq (by decide +kernel))) ?_
            refine ex_il oq_X11_back_27 gL129_1 ?_
            refine ex_aa oq_X11_back_28 Th126 (k := 62) (d := 15) (j := x128.toInt.toNat) rfl rfl (by omega) (by omega) (fun k133 ak133 sk133 => ?_)
            have Ph126 : cw_PP G h126 := pp_fr0 (by decide +kernel) hP Fh126
            refine ex_cv oq_X11_back_29 (by decide) Th126 (k := k132) (d := 1) (as := [cv_r k133]) (stk := []) sk132 rfl rfl rfl rfl rfl ⟨rfl, rfl⟩ (cw_HX hz_X1_copy rfl (cw_Xok_no2 hX) ⟨Th126, Ph126⟩ ⟨.inl ⟨by decide, k132, rfl, sk132⟩, .inl ⟨by decide, k133, rfl, sk133⟩, trivial⟩ (fun t ht => absurd ht List.not_mem_nil)) (fun ox135 hox135 => ?_)
            obtain ⟨h134, rfl, Th134, Ph134, Ch134⟩ := po_non hox135 rfl
            show cw_X _ _ _ _ _ [] h134
            have Fh134 : cw_Fr cw_Ds cw_sh kk_X11_back.2.2.2.2.2.1 h0 h134 := cw_Fr_tr Fh126 (cw_Fr_mono (by decide +kernel) Ch134)
            have eh134_0_8 : ri_at h134 0 8 = w := (ri_frf Ch134 (k := 0) (d := 11) rfl rfl (by decide +kernel)).trans eh126_0_8
            clear eh126_0_8
            have eh134_0_10 : ri_at h134 0 10 = im := (ri_frf Ch134 (k := 0) (d := 11) rfl rfl (by decide +kernel)).trans eh126_0_10
            clear eh126_0_10
            refine ex_incA oq_X11_back_32 (v := x128) (m := 1) gL129_1 (by decide) (by omega) (fun L137 x136 hx136 gL137_1 kL137 => ?_)
            have gL137_0 : cv_get L137 0 = some (cv_r 0) := kL137 0 _ (by decide) (fun _ => rfl) gL129_0
            refine ex_go oq_X11_back_35 (t := 12) rfl rfl ?_
            refine ex_il oq_X11_back_12 gL137_1 ?_
            refine ex_ic oq_X11_back_13 (m := 4) (by decide) (fun x138 hx138 => ?_)
            refine ex_if oq_X11_back_14 (t := 38) rfl rfl (fun (c139 : x138.toInt ≤ x136.toInt) => ?_) (fun (c139 : ¬ (x138.toInt ≤ x136.toInt)) => ?_)
            · refine ex_al oq_X11_back_38 gL137_0 ?_
              refine ex_al oq_X11_back_39 gL137_0 ?_
              obtain ⟨x140, ax140, rx140, lx140, ux140⟩ := ri_fld (k := 0) (d := 11) (f := 10) Th134 rfl rfl rfl
              try dsimp only at lx140 ux140
              refine ex_gf oq_X11_back_40 Th134 (k := 0) (d := 11) rfl rfl ax140 ?_
              have rx140 := (rx140.symm.trans eh134_0_10 : x140.toInt = im)
              refine ex_pfi oq_X11_back_43 Th134 (k := 0) (d := 11) rfl rfl rfl (by omega) (by omega) (fun h141 Th141 wh141 => ?_)
              have Fh141 : cw_Fr cw_Ds cw_sh kk_X11_back.2.2.2.2.2.1 h0 h141 := cw_Fr_tr Fh134 (cw_Fr_wrf wh141 (k := 0) (d := 11) rfl rfl (by decide +kernel))
              have eh141_0_8 : ri_at h141 0 8 = x140.toInt := ri_self wh141
              have eh141_0_10 : ri_at h141 0 10 = im := (ri_ne wh141 (.inr (by decide))).trans eh134_0_10
              clear eh134_0_10
              refine ex_al oq_X11_back_46 gL137_0 ?_
              refine ex_gf oq_X11_back_47 Th141 (k := 0) (d := 11) rfl rfl (ri_ref (k := 0) (k' := 63) (d := 11) (f := 11) Th141 rfl rfl rfl (by decide) (ri_uniq (by decide +kernel))) ?_
              have Ph141 : cw_PP G h141 := pp_fr0 (by decide +kernel) hP Fh141
              refine ex_cv oq_X11_back_50 (by decide) Th141 (k := 63) (d := 10) (as := []) (stk := []) rfl rfl rfl rfl rfl rfl ⟨rfl, rfl⟩ (cw_HX hz_X10_clear rfl (cw_Xok_no2 hX) ⟨Th141, Ph141⟩ ⟨.inl ⟨by decide, 63, rfl, rfl⟩, trivial⟩ (fun t ht => absurd ht List.not_mem_nil)) (fun ox143 hox143 => ?_)
              obtain ⟨h142, rfl, Th142, Ph142, Ch142⟩ := po_non hox143 rfl
              show cw_X _ _ _ _ _ [] h142
              have Fh142 : cw_Fr cw_Ds cw_sh kk_X11_back.2.2.2.2.2.1 h0 h142 := cw_Fr_tr Fh141 (cw_Fr_mono (by decide +kernel) Ch142)
              have eh142_0_8 : ri_at h142 0 8 = x140.toInt := (ri_frf Ch142 (k := 0) (d := 11) rfl rfl (by decide +kernel)).trans eh141_0_8
              clear eh141_0_8
              have eh142_0_10 : ri_at h142 0 10 = im := (ri_frf Ch142 (k := 0) (d := 11) rfl rfl (by decide +kernel)).trans eh141_0_10
              clear eh141_0_10
              refine ex_al oq_X11_back_53 gL137_0 ?_
              obtain ⟨x144, ax144, rx144, lx144, ux144⟩ := ri_fld (k := 0) (d := 11) (f := 8) Th142 rfl rfl rfl
              try dsimp only at lx144 ux144
              refine ex_gf oq_X11_back_54 Th142 (k := 0) (d := 11) rfl rfl ax144 ?_
              have rx144 := (rx144.symm.trans eh142_0_8 : x144.toInt = x140.toInt)
              exact ex_reti oq_X11_back_57 rfl (hQ x144 h142 Th142 (pp_fr0 (by decide +kernel) hP Fh142) Fh142 (by omega))
            · exfalso; omega
  · refine ex_ic oq_X11_back_8 (m := (-1)) (by decide) (fun x145 hx145 => ?_)
    exact ex_reti oq_X11_back_9 rfl (hQ x145 h0 hT (pp_fr0 (by decide +kernel) hP Fh0) Fh0 (by omega))
end TZ
