section TZ
variable {G : Int} {X : cv_X} {Q : cv_O → Prop} {t : Nat → Int}
set_option maxHeartbeats 8000000 in
theorem rt_hooksReadK {h0 : cv_H} {n p : Nat} (ht : ∀ i, i < n → t i = ri_at h0 112 i) (hn9 : n ≤ 900) (hT : cw_T G h0) (hwr : ∀ i, i < 177 → ri_at h0 113 i = pp_words.getD i 0) (hpn : p ≤ n) (hz : zR t n p h0) {b : Nat} {g : Int32} (hg : g.toInt = b) (hb : b + 16 ≤ 128) (hb64 : 64 ≤ b) {hh : Int} (hg1 : ri_at h0 119 (b + 1) = hh) (hh2 : 24 ≤ hh ∧ hh ≤ 72) {cm : Nat} (hg14 : ri_at h0 119 (b + 14) = cm) (hQ : ∀ (x : Int32) h', cw_T G h' → cw_Fr cw_Ds cw_sh mk_gt h0 h' → zFK h0 h' → zRe t n h0 h' x (zhk t n hh p) (fun _ => ri_at h' 119 (b + 1) = hh ∧ ri_at h' 119 (b + 14) = cm) → Q (some (cv_i x), h')) : cw_X X 181 Q 0 (cv_ent 0 [cv_r 111, cv_i g]) [] h0 := by
  have Fh0 : cw_Fr cw_Ds cw_sh mk_gt h0 h0 := cw_Fr_refl
  have Kh0 : zFK h0 h0 := zFK_0
  have zxl := zx_le (t := t) hpn
  obtain ⟨z1, z2, z3, z4, z5⟩ := id hz
  replace z5 := zhd_i z5
  have hA : ∀ h, cw_Fr cw_Ds cw_sh mk_gt h0 h → ∀ i, ri_at h 112 i = ri_at h0 112 i := fun h F i => ri_frr F (k := 112) (d := 51) rfl rfl (by decide +kernel)
  have hB : ∀ h, cw_Fr cw_Ds cw_sh mk_gt h0 h → ∀ i, ri_at h 113 i = ri_at h0 113 i := fun h F i => ri_frr F (k := 113) (d := 52) rfl rfl (by decide +kernel)
  refine ex_al oq_X12_hooksRead_0 rfl ?_
  refine ex_ic oq_X12_hooksRead_1 (m := 0) (by decide) (fun x101 hx101 => ?_)
  refine ex_al oq_X12_hooksRead_2 rfl ?_
  refine ex_gf oq_X12_hooksRead_3 hT (k := 111) (d := 12) rfl rfl (fr_gateHas hT) ?_
  refine ex_il oq_X12_hooksRead_6 rfl ?_
  refine ex_ic oq_X12_hooksRead_7 (m := 1) (by decide) (fun x102 hx102 => ?_)
  refine ex_add oq_X12_hooksRead_8 (by omega) (fun x103 hx103 => ?_)
  refine ex_iap oq_X12_hooksRead_9 hT (k := 119) (d := 58) (j := b + 1) rfl rfl (by omega) (by omega) (fun x104 hx104 => ?_)
  have hH1 := (hx104.symm.trans hg1 : x104.toInt = hh)
  refine ex_cv oq_X12_hooksRead_10 (by decide) hT (k := 111) (d := 12) (as := [cv_i x101, cv_i x104]) (stk := []) rfl rfl rfl rfl rfl rfl ⟨rfl, rfl⟩ (R := fun o => ∃ (x : Int32) (hb : cv_H), o = (some (cv_i x), hb) ∧ cw_T G hb ∧ cw_Fr cw_Ds cw_sh kk_X12_number.2.2.2.2.2.1 h0 hb ∧ zRe t n h0 hb x (zn t n x101.toInt x104.toInt p) (fun v => ri_at hb 111 11 = v)) (rt_number (t := t) (n := n) (p := p) (fun i hi => by rw [ht i hi, ← hA _ Fh0]) hn9 hT (fun i hi => by rw [hB _ Fh0]; exact hwr i hi) (by omega) hz x101 x104 (fun x hb b1 b2 b3 => ⟨x, hb, rfl, b1, b2, b3⟩)) (fun o ho => ?_)
  obtain ⟨x105, h106, rfl, Th106, Ch106, dx105⟩ := ho
  show cw_X _ _ _ _ _ [cv_i x105] h106
  have Fh106 : cw_Fr cw_Ds cw_sh mk_gt h0 h106 := cw_Fr_tr Fh0 (cw_Fr_mono (by decide +kernel) Ch106)
  have Kh106 := zFK_fr Ch106 (by decide +kernel) Kh0
  rw [hx101] at dx105
  have eh106_r1 : ri_at h106 119 (b + 1) = hh := (ri_frq Ch106 (k := 119) (d := 58) rfl rfl (by decide) (by decide +kernel)).trans hg1
  have eh106_r14 : ri_at h106 119 (b + 14) = (cm : Int) := (ri_frq Ch106 (k := 119) (d := 58) rfl rfl (by decide) (by decide +kernel)).trans hg14
  refine ex_if0 oq_X12_hooksRead_13 (t := 18) rfl rfl (fun (c107 : ¬ x105.toInt = 0) => ?_) (fun (c107 : ¬ (¬ x105.toInt = 0)) => ?_)
  · obtain ⟨v1, q1, e1_1, e1_2, ax105, Zh106, e1_5, e1_6, e1_7⟩ := zRe_yes dx105 c107
    clear dx105 c107
    obtain ⟨yah106, ybh106, ych106, ydh106, -⟩ := id Zh106
    have zlh106 := zx_le (t := t) (n := n) (p := q1) (by omega)
    have e1_8 := zn_rg e1_1
    refine ex_al oq_X12_hooksRead_18 rfl ?_
    refine ex_gf oq_X12_hooksRead_19 Th106 (k := 111) (d := 12) rfl rfl (fr_gateHas Th106) ?_
    refine ex_il oq_X12_hooksRead_22 rfl ?_
    refine ex_ic oq_X12_hooksRead_23 (m := 3) (by decide) (fun x108 hx108 => ?_)
    refine ex_add oq_X12_hooksRead_24 (by omega) (fun x109 hx109 => ?_)
    refine ex_al oq_X12_hooksRead_25 rfl ?_
    obtain ⟨x110, ax110, rx110, lx110, ux110⟩ := fi_got Th106
    refine ex_gf oq_X12_hooksRead_26 Th106 (k := 111) (d := 12) rfl rfl ax110 ?_
    have rx110 := (rx110.symm.trans e1_7 : x110.toInt = v1)
    refine ex_iw oq_X12_hooksRead_29 Th106 (k := 119) (d := 58) (j := b + 3) rfl rfl (by omega) (by omega) (fun r hr => gh_get hr _ (cw_i32 _)) (fun h111 Th111 wh111 => ?_)
    have Fh111 : cw_Fr cw_Ds cw_sh mk_gt h0 h111 := cw_Fr_tr Fh106 (cw_Fr_wrr wh111 (k := 119) (d := 58) rfl rfl (by decide +kernel))
    have Kh111 := zFK_wr (k := 119) wh111 ((by show 64 ≤ _; omega)) Kh106
    have eh111_111_4 : ri_at h111 111 4 = ri_at h0 111 4 := (ri_ne wh111 (.inl (by decide))).trans e1_5
    have eh111_111_5 : ri_at h111 111 5 = ri_at h0 111 5 := (ri_ne wh111 (.inl (by decide))).trans e1_6
    have eh111_111_6 : ri_at h111 111 6 = (n : Int) := (ri_ne wh111 (.inl (by decide))).trans yah106
    have eh111_111_7 : ri_at h111 111 7 = ((zx t n q1 : Nat) : Int) := (ri_ne wh111 (.inl (by decide))).trans ych106
    have eh111_111_8 : ri_at h111 111 8 = zk t n q1 := (ri_ne wh111 (.inl (by decide))).trans ydh106
    have eh111_111_10 : ri_at h111 111 10 = ((za t n q1 : Nat) : Int) := (ri_ne wh111 (.inl (by decide))).trans ybh106
    have eh111_111_11 : ri_at h111 111 11 = v1 := (ri_ne wh111 (.inl (by decide))).trans e1_7
    have eh111_r1 : ri_at h111 119 (b + 1) = hh := (ri_ne wh111 (.inr (by omega))).trans eh106_r1
    clear eh106_r1
    have eh111_r14 : ri_at h111 119 (b + 14) = (cm : Int) := (ri_ne wh111 (.inr (by omega))).trans eh106_r14
    clear eh106_r14
    have Zh111 := zR_wr wh111 Zh106 (.inl (by decide))
    refine ex_al oq_X12_hooksRead_30 rfl ?_
    refine ex_al oq_X12_hooksRead_31 rfl ?_
    obtain ⟨x112, ax112, rx112, lx112, ux112⟩ := fi_got Th111
    refine ex_gf oq_X12_hooksRead_32 Th111 (k := 111) (d := 12) rfl rfl ax112 ?_
    have rx112 := (rx112.symm.trans eh111_111_11 : x112.toInt = v1)
    refine ex_ic oq_X12_hooksRead_35 (m := 1) (by decide) (fun x113 hx113 => ?_)
    refine ex_add oq_X12_hooksRead_36 (by omega) (fun x114 hx114 => ?_)
    refine ex_al oq_X12_hooksRead_37 rfl ?_
    refine ex_gf oq_X12_hooksRead_38 Th111 (k := 111) (d := 12) rfl rfl (fr_gateHas Th111) ?_
    refine ex_il oq_X12_hooksRead_41 rfl ?_
    refine ex_ic oq_X12_hooksRead_42 (m := 1) (by decide) (fun x115 hx115 => ?_)
    refine ex_add oq_X12_hooksRead_43 (by omega) (fun x116 hx116 => ?_)
    refine ex_iap oq_X12_hooksRead_44 Th111 (k := 119) (d := 58) (j := b + 1) rfl rfl (by omega) (by omega) (fun x117 hx117 => ?_)
    have hH3 := (hx117.symm.trans eh111_r1 : x117.toInt = hh)
    have hH2 : x114.toInt = v1 + 1 := by omega
    refine ex_cv oq_X12_hooksRead_45 (by decide) Th111 (k := 111) (d := 12) (as := [cv_i x114, cv_i x117]) (stk := []) rfl rfl rfl rfl rfl rfl ⟨rfl, rfl⟩ (R := fun o => ∃ (x : Int32) (hb : cv_H), o = (some (cv_i x), hb) ∧ cw_T G hb ∧ cw_Fr cw_Ds cw_sh kk_X12_number.2.2.2.2.2.1 h111 hb ∧ zRe t n h111 hb x (zn t n x114.toInt x117.toInt q1) (fun v => ri_at hb 111 11 = v)) (rt_number (t := t) (n := n) (p := q1) (fun i hi => by rw [ht i hi, ← hA _ Fh111]) hn9 Th111 (fun i hi => by rw [hB _ Fh111]; exact hwr i hi) (by omega) Zh111 x114 x117 (fun x hb b1 b2 b3 => ⟨x, hb, rfl, b1, b2, b3⟩)) (fun o ho => ?_)
    obtain ⟨x118, h119, rfl, Th119, Ch119, dx118⟩ := ho
    show cw_X _ _ _ _ _ [cv_i x118] h119
    have Fh119 : cw_Fr cw_Ds cw_sh mk_gt h0 h119 := cw_Fr_tr Fh111 (cw_Fr_mono (by decide +kernel) Ch119)
    have Kh119 := zFK_fr Ch119 (by decide +kernel) Kh111
    have eh119_r1 : ri_at h119 119 (b + 1) = hh := (ri_frq Ch119 (k := 119) (d := 58) rfl rfl (by decide) (by decide +kernel)).trans eh111_r1
    clear eh111_r1
    have eh119_r14 : ri_at h119 119 (b + 14) = (cm : Int) := (ri_frq Ch119 (k := 119) (d := 58) rfl rfl (by decide) (by decide +kernel)).trans eh111_r14
    clear eh111_r14
    refine ex_if0 oq_X12_hooksRead_48 (t := 53) rfl rfl (fun (c120 : ¬ x118.toInt = 0) => ?_) (fun (c120 : ¬ (¬ x118.toInt = 0)) => ?_)
    · obtain ⟨v2, q2, e2_1, e2_2, ax118, Zh119, e2_5, e2_6, e2_7⟩ := zRe_yes dx118 c120
      clear dx118 c120
      replace e2_5 := e2_5.trans eh111_111_4
      clear eh111_111_4
      replace e2_6 := e2_6.trans eh111_111_5
      clear eh111_111_5
      obtain ⟨yah119, ybh119, ych119, ydh119, -⟩ := id Zh119
      have zlh119 := zx_le (t := t) (n := n) (p := q2) (by omega)
      clear eh111_111_6 eh111_111_10 eh111_111_7 eh111_111_8
      have e2_8 := zn_rg e2_1
      refine ex_al oq_X12_hooksRead_53 rfl ?_
      refine ex_gf oq_X12_hooksRead_54 Th119 (k := 111) (d := 12) rfl rfl (fr_gateHas Th119) ?_
      refine ex_il oq_X12_hooksRead_57 rfl ?_
      refine ex_ic oq_X12_hooksRead_58 (m := 4) (by decide) (fun x121 hx121 => ?_)
      refine ex_add oq_X12_hooksRead_59 (by omega) (fun x122 hx122 => ?_)
      refine ex_al oq_X12_hooksRead_60 rfl ?_
      obtain ⟨x123, ax123, rx123, lx123, ux123⟩ := fi_got Th119
      refine ex_gf oq_X12_hooksRead_61 Th119 (k := 111) (d := 12) rfl rfl ax123 ?_
      have rx123 := (rx123.symm.trans e2_7 : x123.toInt = v2)
      refine ex_iw oq_X12_hooksRead_64 Th119 (k := 119) (d := 58) (j := b + 4) rfl rfl (by omega) (by omega) (fun r hr => gh_get hr _ (cw_i32 _)) (fun h124 Th124 wh124 => ?_)
      have Fh124 : cw_Fr cw_Ds cw_sh mk_gt h0 h124 := cw_Fr_tr Fh119 (cw_Fr_wrr wh124 (k := 119) (d := 58) rfl rfl (by decide +kernel))
      have Kh124 := zFK_wr (k := 119) wh124 ((by show 64 ≤ _; omega)) Kh119
      have eh124_111_4 : ri_at h124 111 4 = ri_at h0 111 4 := (ri_ne wh124 (.inl (by decide))).trans e2_5
      have eh124_111_5 : ri_at h124 111 5 = ri_at h0 111 5 := (ri_ne wh124 (.inl (by decide))).trans e2_6
      have eh124_111_6 : ri_at h124 111 6 = (n : Int) := (ri_ne wh124 (.inl (by decide))).trans yah119
      have eh124_111_7 : ri_at h124 111 7 = ((zx t n q2 : Nat) : Int) := (ri_ne wh124 (.inl (by decide))).trans ych119
      have eh124_111_8 : ri_at h124 111 8 = zk t n q2 := (ri_ne wh124 (.inl (by decide))).trans ydh119
      have eh124_111_10 : ri_at h124 111 10 = ((za t n q2 : Nat) : Int) := (ri_ne wh124 (.inl (by decide))).trans ybh119
      have eh124_111_11 : ri_at h124 111 11 = v2 := (ri_ne wh124 (.inl (by decide))).trans e2_7
      have eh124_r1 : ri_at h124 119 (b + 1) = hh := (ri_ne wh124 (.inr (by omega))).trans eh119_r1
      clear eh119_r1
      have eh124_r14 : ri_at h124 119 (b + 14) = (cm : Int) := (ri_ne wh124 (.inr (by omega))).trans eh119_r14
      clear eh119_r14
      have Zh124 := zR_wr wh124 Zh119 (.inl (by decide))
      refine ex_al oq_X12_hooksRead_65 rfl ?_
      refine ex_bi oq_X12_hooksRead_66 (m := 30) (by decide) (fun x125 hx125 => ?_)
      refine ex_cv oq_X12_hooksRead_68 (by decide) Th124 (k := 111) (d := 12) (as := [cv_i x125]) (stk := []) rfl rfl rfl rfl rfl rfl ⟨rfl, rfl⟩ (R := fun o => ∃ (x : Int32) (hb : cv_H), o = (some (cv_i x), hb) ∧ cw_T G hb ∧ cw_Fr cw_Ds cw_sh kk_X12_signed.2.2.2.2.2.1 h124 hb ∧ zRe t n h124 hb x (zg t n x125.toInt q2) (fun v => ri_at hb 111 11 = v)) (rt_signed (t := t) (n := n) (p := q2) (fun i hi => by rw [ht i hi, ← hA _ Fh124]) hn9 Th124 (fun i hi => by rw [hB _ Fh124]; exact hwr i hi) (by omega) Zh124 x125 (by omega) (fun x hb b1 b2 b3 => ⟨x, hb, rfl, b1, b2, b3⟩)) (fun o ho => ?_)
      obtain ⟨x126, h127, rfl, Th127, Ch127, dx126⟩ := ho
      show cw_X _ _ _ _ _ [cv_i x126] h127
      have Fh127 : cw_Fr cw_Ds cw_sh mk_gt h0 h127 := cw_Fr_tr Fh124 (cw_Fr_mono (by decide +kernel) Ch127)
      have Kh127 := zFK_fr Ch127 (by decide +kernel) Kh124
      rw [hx125] at dx126
      have eh127_r1 : ri_at h127 119 (b + 1) = hh := (ri_frq Ch127 (k := 119) (d := 58) rfl rfl (by decide) (by decide +kernel)).trans eh124_r1
      clear eh124_r1
      have eh127_r14 : ri_at h127 119 (b + 14) = (cm : Int) := (ri_frq Ch127 (k := 119) (d := 58) rfl rfl (by decide) (by decide +kernel)).trans eh124_r14
      clear eh124_r14
      refine ex_if0 oq_X12_hooksRead_71 (t := 76) rfl rfl (fun (c128 : ¬ x126.toInt = 0) => ?_) (fun (c128 : ¬ (¬ x126.toInt = 0)) => ?_)
      · obtain ⟨v3, q3, e3_1, e3_2, ax126, Zh127, e3_5, e3_6, e3_7⟩ := zRe_yes dx126 c128
        clear dx126 c128
        replace e3_5 := e3_5.trans eh124_111_4
        clear eh124_111_4
        replace e3_6 := e3_6.trans eh124_111_5
        clear eh124_111_5
        obtain ⟨yah127, ybh127, ych127, ydh127, -⟩ := id Zh127
        have zlh127 := zx_le (t := t) (n := n) (p := q3) (by omega)
        clear eh124_111_6 eh124_111_10 eh124_111_7 eh124_111_8
        have e3_8 := zg_rg (by omega) e3_1
        refine ex_al oq_X12_hooksRead_76 rfl ?_
        refine ex_gf oq_X12_hooksRead_77 Th127 (k := 111) (d := 12) rfl rfl (fr_gateHas Th127) ?_
        refine ex_il oq_X12_hooksRead_80 rfl ?_
        refine ex_ic oq_X12_hooksRead_81 (m := 5) (by decide) (fun x129 hx129 => ?_)
        refine ex_add oq_X12_hooksRead_82 (by omega) (fun x130 hx130 => ?_)
        refine ex_al oq_X12_hooksRead_83 rfl ?_
        obtain ⟨x131, ax131, rx131, lx131, ux131⟩ := fi_got Th127
        refine ex_gf oq_X12_hooksRead_84 Th127 (k := 111) (d := 12) rfl rfl ax131 ?_
        have rx131 := (rx131.symm.trans e3_7 : x131.toInt = v3)
        refine ex_iw oq_X12_hooksRead_87 Th127 (k := 119) (d := 58) (j := b + 5) rfl rfl (by omega) (by omega) (fun r hr => gh_get hr _ (cw_i32 _)) (fun h132 Th132 wh132 => ?_)
        have Fh132 : cw_Fr cw_Ds cw_sh mk_gt h0 h132 := cw_Fr_tr Fh127 (cw_Fr_wrr wh132 (k := 119) (d := 58) rfl rfl (by decide +kernel))
        have Kh132 := zFK_wr (k := 119) wh132 ((by show 64 ≤ _; omega)) Kh127
        have eh132_111_4 : ri_at h132 111 4 = ri_at h0 111 4 := (ri_ne wh132 (.inl (by decide))).trans e3_5
        have eh132_111_5 : ri_at h132 111 5 = ri_at h0 111 5 := (ri_ne wh132 (.inl (by decide))).trans e3_6
        have eh132_111_6 : ri_at h132 111 6 = (n : Int) := (ri_ne wh132 (.inl (by decide))).trans yah127
        have eh132_111_7 : ri_at h132 111 7 = ((zx t n q3 : Nat) : Int) := (ri_ne wh132 (.inl (by decide))).trans ych127
        have eh132_111_8 : ri_at h132 111 8 = zk t n q3 := (ri_ne wh132 (.inl (by decide))).trans ydh127
        have eh132_111_10 : ri_at h132 111 10 = ((za t n q3 : Nat) : Int) := (ri_ne wh132 (.inl (by decide))).trans ybh127
        have eh132_111_11 : ri_at h132 111 11 = v3 := (ri_ne wh132 (.inl (by decide))).trans e3_7
        have eh132_r1 : ri_at h132 119 (b + 1) = hh := (ri_ne wh132 (.inr (by omega))).trans eh127_r1
        clear eh127_r1
        have eh132_r14 : ri_at h132 119 (b + 14) = (cm : Int) := (ri_ne wh132 (.inr (by omega))).trans eh127_r14
        clear eh127_r14
        have Zh132 := zR_wr wh132 Zh127 (.inl (by decide))
        refine ex_al oq_X12_hooksRead_88 rfl ?_
        refine ex_bi oq_X12_hooksRead_89 (m := 30) (by decide) (fun x133 hx133 => ?_)
        refine ex_cv oq_X12_hooksRead_91 (by decide) Th132 (k := 111) (d := 12) (as := [cv_i x133]) (stk := []) rfl rfl rfl rfl rfl rfl ⟨rfl, rfl⟩ (R := fun o => ∃ (x : Int32) (hb : cv_H), o = (some (cv_i x), hb) ∧ cw_T G hb ∧ cw_Fr cw_Ds cw_sh kk_X12_signed.2.2.2.2.2.1 h132 hb ∧ zRe t n h132 hb x (zg t n x133.toInt q3) (fun v => ri_at hb 111 11 = v)) (rt_signed (t := t) (n := n) (p := q3) (fun i hi => by rw [ht i hi, ← hA _ Fh132]) hn9 Th132 (fun i hi => by rw [hB _ Fh132]; exact hwr i hi) (by omega) Zh132 x133 (by omega) (fun x hb b1 b2 b3 => ⟨x, hb, rfl, b1, b2, b3⟩)) (fun o ho => ?_)
        obtain ⟨x134, h135, rfl, Th135, Ch135, dx134⟩ := ho
        show cw_X _ _ _ _ _ [cv_i x134] h135
        have Fh135 : cw_Fr cw_Ds cw_sh mk_gt h0 h135 := cw_Fr_tr Fh132 (cw_Fr_mono (by decide +kernel) Ch135)
        have Kh135 := zFK_fr Ch135 (by decide +kernel) Kh132
        rw [hx133] at dx134
        have eh135_r1 : ri_at h135 119 (b + 1) = hh := (ri_frq Ch135 (k := 119) (d := 58) rfl rfl (by decide) (by decide +kernel)).trans eh132_r1
        clear eh132_r1
        have eh135_r14 : ri_at h135 119 (b + 14) = (cm : Int) := (ri_frq Ch135 (k := 119) (d := 58) rfl rfl (by decide) (by decide +kernel)).trans eh132_r14
        clear eh132_r14
        refine ex_if0 oq_X12_hooksRead_94 (t := 99) rfl rfl (fun (c136 : ¬ x134.toInt = 0) => ?_) (fun (c136 : ¬ (¬ x134.toInt = 0)) => ?_)
        · obtain ⟨v4, q4, e4_1, e4_2, ax134, Zh135, e4_5, e4_6, e4_7⟩ := zRe_yes dx134 c136
          clear dx134 c136
          replace e4_5 := e4_5.trans eh132_111_4
          clear eh132_111_4
          replace e4_6 := e4_6.trans eh132_111_5
          clear eh132_111_5
          obtain ⟨yah135, ybh135, ych135, ydh135, -⟩ := id Zh135
          have zlh135 := zx_le (t := t) (n := n) (p := q4) (by omega)
          clear eh132_111_6 eh132_111_10 eh132_111_7 eh132_111_8
          have e4_8 := zg_rg (by omega) e4_1
          refine ex_al oq_X12_hooksRead_99 rfl ?_
          refine ex_gf oq_X12_hooksRead_100 Th135 (k := 111) (d := 12) rfl rfl (fr_gateHas Th135) ?_
          refine ex_il oq_X12_hooksRead_103 rfl ?_
          refine ex_bi oq_X12_hooksRead_104 (m := 6) (by decide) (fun x137 hx137 => ?_)
          refine ex_add oq_X12_hooksRead_106 (by omega) (fun x138 hx138 => ?_)
          refine ex_al oq_X12_hooksRead_107 rfl ?_
          obtain ⟨x139, ax139, rx139, lx139, ux139⟩ := fi_got Th135
          refine ex_gf oq_X12_hooksRead_108 Th135 (k := 111) (d := 12) rfl rfl ax139 ?_
          have rx139 := (rx139.symm.trans e4_7 : x139.toInt = v4)
          refine ex_iw oq_X12_hooksRead_111 Th135 (k := 119) (d := 58) (j := b + 6) rfl rfl (by omega) (by omega) (fun r hr => gh_get hr _ (cw_i32 _)) (fun h140 Th140 wh140 => ?_)
          have Fh140 : cw_Fr cw_Ds cw_sh mk_gt h0 h140 := cw_Fr_tr Fh135 (cw_Fr_wrr wh140 (k := 119) (d := 58) rfl rfl (by decide +kernel))
          have Kh140 := zFK_wr (k := 119) wh140 ((by show 64 ≤ _; omega)) Kh135
          have eh140_111_4 : ri_at h140 111 4 = ri_at h0 111 4 := (ri_ne wh140 (.inl (by decide))).trans e4_5
          have eh140_111_5 : ri_at h140 111 5 = ri_at h0 111 5 := (ri_ne wh140 (.inl (by decide))).trans e4_6
          have eh140_111_6 : ri_at h140 111 6 = (n : Int) := (ri_ne wh140 (.inl (by decide))).trans yah135
          have eh140_111_7 : ri_at h140 111 7 = ((zx t n q4 : Nat) : Int) := (ri_ne wh140 (.inl (by decide))).trans ych135
          have eh140_111_8 : ri_at h140 111 8 = zk t n q4 := (ri_ne wh140 (.inl (by decide))).trans ydh135
          have eh140_111_10 : ri_at h140 111 10 = ((za t n q4 : Nat) : Int) := (ri_ne wh140 (.inl (by decide))).trans ybh135
          have eh140_111_11 : ri_at h140 111 11 = v4 := (ri_ne wh140 (.inl (by decide))).trans e4_7
          have eh140_r1 : ri_at h140 119 (b + 1) = hh := (ri_ne wh140 (.inr (by omega))).trans eh135_r1
          clear eh135_r1
          have eh140_r14 : ri_at h140 119 (b + 14) = (cm : Int) := (ri_ne wh140 (.inr (by omega))).trans eh135_r14
          clear eh135_r14
          have Zh140 := zR_wr wh140 Zh135 (.inl (by decide))
          refine ex_ic oq_X12_hooksRead_112 (m := 1) (by decide) (fun x141 hx141 => ?_)
          exact ex_retb oq_X12_hooksRead_113 rfl (by omega) (by omega) (hQ x141 h140 Th140 Fh140 Kh140 (.inl ⟨_, _, (by unfold zhk; rw [zb2_r (show zn t n 0 hh p = _ from by rw [← hH1]; exact e1_1), zb2_r (show zn t n (v1 + 1) hh q1 = _ from by rw [← hH2, ← hH3]; exact e2_1), zb2_r e3_1, zb2_r e4_1]), by omega, by omega, Zh140, by omega, by omega, by omega, by omega⟩))
        · replace c136 : x134.toInt = 0 := by omega
          obtain ⟨fc5, fa5, e5_1, ax134, e5_3, e5_4, e5_5⟩ := zRe_no dx134 c136
          clear dx134
          refine ex_ic oq_X12_hooksRead_97 (m := 0) (by decide) (fun x142 hx142 => ?_)
          exact ex_retb oq_X12_hooksRead_98 rfl (by omega) (by omega) (hQ x142 h135 Th135 Fh135 Kh135 (.inr ⟨_, _, (by unfold zhk; rw [zb2_r (show zn t n 0 hh p = _ from by rw [← hH1]; exact e1_1), zb2_r (show zn t n (v1 + 1) hh q1 = _ from by rw [← hH2, ← hH3]; exact e2_1), zb2_r e3_1, zb2_l e5_1]), by omega, by omega, by omega, by omega⟩))
      · replace c128 : x126.toInt = 0 := by omega
        obtain ⟨fc6, fa6, e6_1, ax126, e6_3, e6_4, e6_5⟩ := zRe_no dx126 c128
        clear dx126
        refine ex_ic oq_X12_hooksRead_74 (m := 0) (by decide) (fun x143 hx143 => ?_)
        exact ex_retb oq_X12_hooksRead_75 rfl (by omega) (by omega) (hQ x143 h127 Th127 Fh127 Kh127 (.inr ⟨_, _, (by unfold zhk; rw [zb2_r (show zn t n 0 hh p = _ from by rw [← hH1]; exact e1_1), zb2_r (show zn t n (v1 + 1) hh q1 = _ from by rw [← hH2, ← hH3]; exact e2_1), zb2_l e6_1]), by omega, by omega, by omega, by omega⟩))
    · replace c120 : x118.toInt = 0 := by omega
      obtain ⟨fc7, fa7, e7_1, ax118, e7_3, e7_4, e7_5⟩ := zRe_no dx118 c120
      clear dx118
      refine ex_ic oq_X12_hooksRead_51 (m := 0) (by decide) (fun x144 hx144 => ?_)
      exact ex_retb oq_X12_hooksRead_52 rfl (by omega) (by omega) (hQ x144 h119 Th119 Fh119 Kh119 (.inr ⟨_, _, (by unfold zhk; rw [zb2_r (show zn t n 0 hh p = _ from by rw [← hH1]; exact e1_1), zb2_l (show zn t n (v1 + 1) hh q1 = _ from by rw [← hH2, ← hH3]; exact e7_1)]), by omega, by omega, by omega, by omega⟩))
  · replace c107 : x105.toInt = 0 := by omega
    obtain ⟨fc8, fa8, e8_1, ax105, e8_3, e8_4, e8_5⟩ := zRe_no dx105 c107
    clear dx105
    refine ex_ic oq_X12_hooksRead_16 (m := 0) (by decide) (fun x145 hx145 => ?_)
    exact ex_retb oq_X12_hooksRead_17 rfl (by omega) (by omega) (hQ x145 h106 Th106 Fh106 Kh106 (.inr ⟨_, _, (by unfold zhk; rw [zb2_l (show zn t n 0 hh p = _ from by rw [← hH1]; exact e8_1)]), by omega, by omega, by omega, by omega⟩))
set_option maxHeartbeats 8000000 in
theorem rt_causeReadK {h0 : cv_H} {n p : Nat} (ht : ∀ i, i < n → t i = ri_at h0 112 i) (hn9 : n ≤ 900) (hT : cw_T G h0) (hwr : ∀ i, i < 177 → ri_at h0 113 i = pp_words.getD i 0) (hpn : p ≤ n) (hz : zR t n p h0) {b : Nat} {g : Int32} (hg : g.toInt = b) (hb : b + 16 ≤ 128) (hb64 : 64 ≤ b) {hh : Int} (hg1 : ri_at h0 119 (b + 1) = hh) (hh2 : 24 ≤ hh ∧ hh ≤ 72) {cm : Nat} (hg14 : ri_at h0 119 (b + 14) = cm) {cn : List Int} (hcc : ri_at h0 111 18 = cn.length) (hc6 : cn.length ≤ 6) (hcl : ∀ k, k < cn.length → ri_at h0 123 (6 + k) = cn.getD k 0) (hcm : cm < 64) (hQ : ∀ (x : Int32) h', cw_T G h' → cw_Fr cw_Ds cw_sh mk_gt h0 h' → zFK h0 h' → zRe t n h0 h' x (zcr t n cn cm p) (fun c' => ri_at h' 119 (b + 1) = hh ∧ c' < 64 ∧ ri_at h' 119 (b + 14) = c') → Q (some (cv_i x), h')) : cw_X X 182 Q 0 (cv_ent 0 [cv_r 111, cv_i g]) [] h0 := by
  have Fh0 : cw_Fr cw_Ds cw_sh mk_gt h0 h0 := cw_Fr_refl
  have Kh0 : zFK h0 h0 := zFK_0
  have zxl := zx_le (t := t) hpn
  obtain ⟨z1, z2, z3, z4, z5⟩ := id hz
  replace z5 := zhd_i z5
  have hA : ∀ h, cw_Fr cw_Ds cw_sh mk_gt h0 h → ∀ i, ri_at h 112 i = ri_at h0 112 i := fun h F i => ri_frr F (k := 112) (d := 51) rfl rfl (by decide +kernel)
  have hB : ∀ h, cw_Fr cw_Ds cw_sh mk_gt h0 h → ∀ i, ri_at h 113 i = ri_at h0 113 i := fun h F i => ri_frr F (k := 113) (d := 52) rfl rfl (by decide +kernel)
  refine ex_al oq_X12_causeRead_0 rfl ?_
  obtain ⟨x101, ax101, rx101, lx101, ux101⟩ := fi_kind hT
  refine ex_gf oq_X12_causeRead_1 hT (k := 111) (d := 12) rfl rfl ax101 ?_
  have rx101 := (rx101.symm.trans z4 : x101.toInt = zk t n p)
  refine ex_ic oq_X12_causeRead_4 (m := 2) (by decide) (fun x102 hx102 => ?_)
  refine ex_if oq_X12_causeRead_5 (t := 14) rfl rfl (fun (c103 : x101.toInt = x102.toInt) => ?_) (fun (c103 : ¬ (x101.toInt = x102.toInt)) => ?_)
  · refine ex_al oq_X12_causeRead_14 rfl ?_
    refine ex_gf oq_X12_causeRead_15 hT (k := 111) (d := 12) rfl rfl (fr_causeName hT) ?_
    refine ex_bi oq_X12_causeRead_18 (m := 6) (by decide) (fun x104 hx104 => ?_)
    refine ex_al oq_X12_causeRead_20 rfl ?_
    obtain ⟨x105, ax105, rx105, lx105, ux105⟩ := fi_causesRead hT
    refine ex_gf oq_X12_causeRead_21 hT (k := 111) (d := 12) rfl rfl ax105 ?_
    refine ex_al oq_X12_causeRead_24 rfl ?_
    obtain ⟨x106, ax106, rx106, lx106, ux106⟩ := fi_which hT
    refine ex_gf oq_X12_causeRead_25 hT (k := 111) (d := 12) rfl rfl ax106 ?_
    have wx106 : x106.toInt = zw t n p := rx106.symm.trans (hz.2.2.2.2 (by omega) (by omega))
    have hlh0 : ∀ k, k < cn.length → ri_at h0 123 (6 + k) = cn.getD k 0 := fun k hk => by rw [show ri_at h0 123 (6 + k) = ri_at h0 123 (6 + k) from rfl]; exact hcl k hk
    refine ex_cs oq_X12_causeRead_28 (by decide) (as := [cv_r 123, cv_i x104, cv_i x105, cv_i x106]) (stk := []) rfl rfl rfl ⟨rfl, rfl⟩ (R := fun o => ∃ x : Int32, o = (some (cv_i x), h0) ∧ x.toInt = tz_find cn x106.toInt 0) (rt_findC (f := 6) (l := cn) hT (by omega) (by omega) (by omega) hlh0 (fun x q => ⟨x, rfl, q⟩)) (fun o ho => ?_)
    obtain ⟨x107, rfl, qx107⟩ := ho
    show cw_X _ _ _ _ _ [cv_i x107] h0
    rw [wx106] at qx107
    have qb := zfd_b (x := zw t n p) cn 0
    refine ex_isA oq_X12_causeRead_31 (fun L108 gL108_2 kL108 => ?_)
    have gL108_0 : cv_get L108 0 = some (cv_r 111) := kL108 0 _ (by decide) (fun q => absurd q (by decide)) rfl
    have gL108_1 : cv_get L108 1 = some (cv_i g) := kL108 1 _ (by decide) (fun _ => rfl) rfl
    refine ex_il oq_X12_causeRead_32 gL108_2 ?_
    refine ex_if0 oq_X12_causeRead_33 (t := 42) rfl rfl (fun (c109 : 0 ≤ x107.toInt) => ?_) (fun (c109 : ¬ (0 ≤ x107.toInt)) => ?_)
    · refine ex_al oq_X12_causeRead_42 gL108_0 ?_
      refine ex_gf oq_X12_causeRead_43 hT (k := 111) (d := 12) rfl rfl (fr_gateHas hT) ?_
      refine ex_il oq_X12_causeRead_46 gL108_1 ?_
      refine ex_bi oq_X12_causeRead_47 (m := 14) (by decide) (fun x110 hx110 => ?_)
      refine ex_add oq_X12_causeRead_49 (by omega) (fun x111 hx111 => ?_)
      refine ex_iap oq_X12_causeRead_50 hT (k := 119) (d := 58) (j := b + 14) rfl rfl (by omega) (by omega) (fun x112 hx112 => ?_)
      have hx112 := (hx112.symm.trans hg14 : x112.toInt = (cm : Int))
      refine ex_il oq_X12_causeRead_51 gL108_2 ?_
      refine ex_cs oq_X12_causeRead_52 (by decide) (as := [cv_i x112, cv_i x107]) (stk := []) rfl rfl rfl ⟨rfl, rfl⟩ (R := fun o => ∃ x : Int32, o = (some (cv_i x), h0) ∧ (x.toInt = 1 ∧ cm.testBit (tz_find cn (zw t n p) 0).toNat = true ∨ x.toInt = 0 ∧ ¬ cm.testBit (tz_find cn (zw t n p) 0).toNat = true)) (rt_isOf (m := cm) (j := (tz_find cn (zw t n p) 0).toNat) (by omega) (by omega) (by omega) (by omega) (fun x q => ⟨x, rfl, q⟩)) (fun o ho => ?_)
      obtain ⟨x113, rfl, dx113⟩ := ho
      show cw_X _ _ _ _ _ [cv_i x113] h0
      refine ex_if0 oq_X12_causeRead_55 (t := 64) rfl rfl (fun (c114 : x113.toInt = 0) => ?_) (fun (c114 : ¬ (x113.toInt = 0)) => ?_)
      · replace dx113 := bit_n dx113 c114
        refine ex_al oq_X12_causeRead_64 gL108_0 ?_
        refine ex_gf oq_X12_causeRead_65 hT (k := 111) (d := 12) rfl rfl (fr_gateHas hT) ?_
        refine ex_il oq_X12_causeRead_68 gL108_1 ?_
        refine ex_bi oq_X12_causeRead_69 (m := 14) (by decide) (fun x115 hx115 => ?_)
        refine ex_add oq_X12_causeRead_71 (by omega) (fun x116 hx116 => ?_)
        refine ex_dup2 oq_X12_causeRead_72 rfl rfl ?_
        refine ex_iap oq_X12_causeRead_73 hT (k := 119) (d := 58) (j := b + 14) rfl rfl (by omega) (by omega) (fun x117 hx117 => ?_)
        have hx117 := (hx117.symm.trans hg14 : x117.toInt = (cm : Int))
        refine ex_ic oq_X12_causeRead_74 (m := 1) (by decide) (fun x118 hx118 => ?_)
        refine ex_il oq_X12_causeRead_75 gL108_2 ?_
        refine ex_shlE oq_X12_causeRead_76 (fun x119 hx119 => ?_)
        refine ex_orE oq_X12_causeRead_77 (fun x120 hx120 => ?_)
        have hor : x120.toInt = ((cm ||| 2 ^ (tz_find cn (zw t n p) 0).toNat : Nat) : Int) := by rw [hx120, hx119]; exact bt_or hx117 (by omega) (by omega) (by omega) hx118
        refine ex_iw oq_X12_causeRead_78 hT (k := 119) (d := 58) (j := b + 14) rfl rfl (by omega) (by omega) (fun r hr => gh_get hr _ (cw_i32 _)) (fun h121 Th121 wh121 => ?_)
        have Fh121 : cw_Fr cw_Ds cw_sh mk_gt h0 h121 := cw_Fr_tr Fh0 (cw_Fr_wrr wh121 (k := 119) (d := 58) rfl rfl (by decide +kernel))
        have Kh121 := zFK_wr (k := 119) wh121 ((by show 64 ≤ _; omega)) Kh0
        have eh121_111_4 : ri_at h121 111 4 = ri_at h0 111 4 := ri_ne wh121 (.inl (by decide))
        have eh121_111_5 : ri_at h121 111 5 = ri_at h0 111 5 := ri_ne wh121 (.inl (by decide))
        have eh121_111_6 : ri_at h121 111 6 = (n : Int) := (ri_ne wh121 (.inl (by decide))).trans z1
        have eh121_111_7 : ri_at h121 111 7 = ((zx t n p : Nat) : Int) := (ri_ne wh121 (.inl (by decide))).trans z3
        have eh121_111_8 : ri_at h121 111 8 = zk t n p := (ri_ne wh121 (.inl (by decide))).trans z4
        have eh121_111_10 : ri_at h121 111 10 = ((za t n p : Nat) : Int) := (ri_ne wh121 (.inl (by decide))).trans z2
        have eh121_111_11 : ri_at h121 111 11 = ri_at h0 111 11 := ri_ne wh121 (.inl (by decide))
        have eh121_111_18 : ri_at h121 111 18 = ri_at h0 111 18 := ri_ne wh121 (.inl (by decide))
        have eh121_r1 : ri_at h121 119 (b + 1) = hh := (ri_ne wh121 (.inr (by omega))).trans hg1
        have eh121_r14 : ri_at h121 119 (b + 14) = x120.toInt := ri_self wh121
        have Zh121 := zR_wr wh121 hz (.inl (by decide))
        refine ex_al oq_X12_causeRead_79 gL108_0 ?_
        refine ex_cv oq_X12_causeRead_80 (by decide) Th121 (k := 111) (d := 12) (as := []) (stk := []) rfl rfl rfl rfl rfl rfl ⟨rfl, rfl⟩ (R := fun o => ∃ hb : cv_H, o = (none, hb) ∧ cw_T G hb ∧ cw_Fr cw_Ds cw_sh kk_X12_token.2.2.2.2.2.1 h121 hb ∧ zR t n (zx t n p) hb) (rt_tok (t := t) (n := n) (p := (zx t n p)) (fun i hi => by rw [ht i hi, ← hA _ Fh121]) hn9 (fun i hi => by rw [hB _ Fh121]; exact hwr i hi) Th121 (zx_le (by omega)) (by omega) (by omega) (fun hb b1 b2 b3 => ⟨hb, rfl, b1, b2, b3⟩)) (fun o ho => ?_)
        obtain ⟨h122, rfl, Th122, Ch122, Zh122⟩ := ho
        show cw_X _ _ _ _ _ [] h122
        have Fh122 : cw_Fr cw_Ds cw_sh mk_gt h0 h122 := cw_Fr_tr Fh121 (cw_Fr_mono (by decide +kernel) Ch122)
        have Kh122 := zFK_fr Ch122 (by decide +kernel) Kh121
        have eh122_111_4 : ri_at h122 111 4 = ri_at h0 111 4 := (ri_frf Ch122 (d := 12) rfl rfl (by decide +kernel)).trans eh121_111_4
        clear eh121_111_4
        have eh122_111_5 : ri_at h122 111 5 = ri_at h0 111 5 := (ri_frf Ch122 (d := 12) rfl rfl (by decide +kernel)).trans eh121_111_5
        clear eh121_111_5
        have eh122_111_11 : ri_at h122 111 11 = ri_at h0 111 11 := (ri_frf Ch122 (d := 12) rfl rfl (by decide +kernel)).trans eh121_111_11
        clear eh121_111_11
        have eh122_111_18 : ri_at h122 111 18 = ri_at h0 111 18 := (ri_frf Ch122 (d := 12) rfl rfl (by decide +kernel)).trans eh121_111_18
        clear eh121_111_18
        have eh122_r1 : ri_at h122 119 (b + 1) = hh := (ri_frq Ch122 (k := 119) (d := 58) rfl rfl (by decide) (by decide +kernel)).trans eh121_r1
        clear eh121_r1
        have eh122_r14 : ri_at h122 119 (b + 14) = x120.toInt := (ri_frq Ch122 (k := 119) (d := 58) rfl rfl (by decide) (by decide +kernel)).trans eh121_r14
        clear eh121_r14
        obtain ⟨yah122, ybh122, ych122, ydh122, -⟩ := id Zh122
        have zlh122 := zx_le (t := t) (n := n) (p := (zx t n p)) (by omega)
        clear eh121_111_6 eh121_111_10 eh121_111_7 eh121_111_8
        refine ex_ic oq_X12_causeRead_83 (m := 1) (by decide) (fun x123 hx123 => ?_)
        exact ex_retb oq_X12_causeRead_84 rfl (by omega) (by omega) (hQ x123 h122 Th122 Fh122 Kh122 (.inl ⟨_, _, (by unfold zcr; rw [if_pos (by omega), if_neg (by omega), if_neg dx113]), by omega, by omega, Zh122, by omega, by omega, by omega, bt_64 hcm (by omega), by rw [eh122_r14, hor]⟩))
      · replace c114 : ¬ x113.toInt = 0 := by omega
        replace dx113 := bit_y dx113 c114
        refine ex_al oq_X12_causeRead_58 gL108_0 ?_
        refine ex_ic oq_X12_causeRead_59 (m := 3) (by decide) (fun x124 hx124 => ?_)
        refine ex_cv oq_X12_causeRead_60 (by decide) hT (k := 111) (d := 12) (as := [cv_i x124]) (stk := []) rfl rfl rfl rfl rfl rfl ⟨rfl, rfl⟩ (R := fun o => ∃ (x : Int32) (hb : cv_H), o = (some (cv_i x), hb) ∧ cw_T G hb ∧ cw_Fr cw_Ds cw_sh kk_X12_wrong.2.2.2.2.2.1 h0 hb ∧ x.toInt = 0 ∧ ri_at hb 111 4 = x124.toInt ∧ ri_at hb 111 5 = ri_at h0 111 10) (rt_wrong hT x124 (fun x hb b1 b2 b3 b4 b5 => ⟨x, hb, rfl, b1, b2, b3, b4, b5⟩)) (fun o ho => ?_)
        obtain ⟨x125, h126, rfl, Th126, Ch126, zh126, fh126, ph126⟩ := ho
        show cw_X _ _ _ _ _ [cv_i x125] h126
        have Fh126 : cw_Fr cw_Ds cw_sh mk_gt h0 h126 := cw_Fr_tr Fh0 (cw_Fr_mono (by decide +kernel) Ch126)
        have Kh126 := zFK_fr Ch126 (by decide +kernel) Kh0
        exact ex_retb oq_X12_causeRead_63 rfl (by omega) (by omega) (hQ x125 h126 Th126 Fh126 Kh126 (.inr ⟨_, _, (by unfold zcr; rw [if_pos (by omega), if_neg (by omega), if_pos dx113]), by omega, by omega, by omega, by decide⟩))
    · refine ex_al oq_X12_causeRead_36 gL108_0 ?_
      refine ex_ic oq_X12_causeRead_37 (m := 4) (by decide) (fun x127 hx127 => ?_)
      refine ex_cv oq_X12_causeRead_38 (by decide) hT (k := 111) (d := 12) (as := [cv_i x127]) (stk := []) rfl rfl rfl rfl rfl rfl ⟨rfl, rfl⟩ (R := fun o => ∃ (x : Int32) (hb : cv_H), o = (some (cv_i x), hb) ∧ cw_T G hb ∧ cw_Fr cw_Ds cw_sh kk_X12_wrong.2.2.2.2.2.1 h0 hb ∧ x.toInt = 0 ∧ ri_at hb 111 4 = x127.toInt ∧ ri_at hb 111 5 = ri_at h0 111 10) (rt_wrong hT x127 (fun x hb b1 b2 b3 b4 b5 => ⟨x, hb, rfl, b1, b2, b3, b4, b5⟩)) (fun o ho => ?_)
      obtain ⟨x128, h129, rfl, Th129, Ch129, zh129, fh129, ph129⟩ := ho
      show cw_X _ _ _ _ _ [cv_i x128] h129
      have Fh129 : cw_Fr cw_Ds cw_sh mk_gt h0 h129 := cw_Fr_tr Fh0 (cw_Fr_mono (by decide +kernel) Ch129)
      have Kh129 := zFK_fr Ch129 (by decide +kernel) Kh0
      exact ex_retb oq_X12_causeRead_41 rfl (by omega) (by omega) (hQ x128 h129 Th129 Fh129 Kh129 (.inr ⟨_, _, (by unfold zcr; rw [if_pos (by omega), if_pos (by omega)]), by omega, by omega, by omega, by decide⟩))
  · refine ex_al oq_X12_causeRead_8 rfl ?_
    refine ex_ic oq_X12_causeRead_9 (m := 1) (by decide) (fun x130 hx130 => ?_)
    refine ex_cv oq_X12_causeRead_10 (by decide) hT (k := 111) (d := 12) (as := [cv_i x130]) (stk := []) rfl rfl rfl rfl rfl rfl ⟨rfl, rfl⟩ (R := fun o => ∃ (x : Int32) (hb : cv_H), o = (some (cv_i x), hb) ∧ cw_T G hb ∧ cw_Fr cw_Ds cw_sh kk_X12_wrong.2.2.2.2.2.1 h0 hb ∧ x.toInt = 0 ∧ ri_at hb 111 4 = x130.toInt ∧ ri_at hb 111 5 = ri_at h0 111 10) (rt_wrong hT x130 (fun x hb b1 b2 b3 b4 b5 => ⟨x, hb, rfl, b1, b2, b3, b4, b5⟩)) (fun o ho => ?_)
    obtain ⟨x131, h132, rfl, Th132, Ch132, zh132, fh132, ph132⟩ := ho
    show cw_X _ _ _ _ _ [cv_i x131] h132
    have Fh132 : cw_Fr cw_Ds cw_sh mk_gt h0 h132 := cw_Fr_tr Fh0 (cw_Fr_mono (by decide +kernel) Ch132)
    have Kh132 := zFK_fr Ch132 (by decide +kernel) Kh0
    exact ex_retb oq_X12_causeRead_13 rfl (by omega) (by omega) (hQ x131 h132 Th132 Fh132 Kh132 (.inr ⟨_, _, (by unfold zcr; rw [if_neg (by omega)]), by omega, by omega, by omega, by decide⟩))
set_option maxHeartbeats 8000000 in
theorem rt_hasReadK {h0 : cv_H} {n p : Nat} (ht : ∀ i, i < n → t i = ri_at h0 112 i) (hn9 : n ≤ 900) (hT : cw_T G h0) (hwr : ∀ i, i < 177 → ri_at h0 113 i = pp_words.getD i 0) (hpn : p ≤ n) (hz : zR t n p h0) {b : Nat} {g : Int32} (hg : g.toInt = b) (hb : b + 16 ≤ 128) (hb64 : 64 ≤ b) {hh : Int} (hg1 : ri_at h0 119 (b + 1) = hh) (hh2 : 24 ≤ hh ∧ hh ≤ 72) {cm : Nat} (hg14 : ri_at h0 119 (b + 14) = cm) {cn : List Int} (hcc : ri_at h0 111 18 = cn.length) (hc6 : cn.length ≤ 6) (hcl : ∀ k, k < cn.length → ri_at h0 123 (6 + k) = cn.getD k 0) (hcm : cm < 64) {u : Nat} (hu : u ≤ 3) (hbu : b = 64 + 16 * u) (hgr : ri_at h0 111 16 = u) {w : Int32} (hw : 0 ≤ w.toInt ∧ w.toInt ≤ 7) (hQ : ∀ (x : Int32) h', cw_T G h' → cw_Fr cw_Ds cw_sh mk_gt h0 h' → zFK h0 h' → zRe t n h0 h' x (zhs t n hh cn w.toInt cm p) (fun c' => ri_at h' 119 (b + 1) = hh ∧ c' < 64 ∧ ri_at h' 119 (b + 14) = c') → Q (some (cv_i x), h')) : cw_X X 180 Q 0 (cv_ent 0 [cv_r 111, cv_i g, cv_i w]) [] h0 := by
  have Fh0 : cw_Fr cw_Ds cw_sh mk_gt h0 h0 := cw_Fr_refl
  have Kh0 : zFK h0 h0 := zFK_0
  have zxl := zx_le (t := t) hpn
  obtain ⟨z1, z2, z3, z4, z5⟩ := id hz
  replace z5 := zhd_i z5
  have hA : ∀ h, cw_Fr cw_Ds cw_sh mk_gt h0 h → ∀ i, ri_at h 112 i = ri_at h0 112 i := fun h F i => ri_frr F (k := 112) (d := 51) rfl rfl (by decide +kernel)
  have hB : ∀ h, cw_Fr cw_Ds cw_sh mk_gt h0 h → ∀ i, ri_at h 113 i = ri_at h0 113 i := fun h F i => ri_frr F (k := 113) (d := 52) rfl rfl (by decide +kernel)
  refine ex_il oq_X12_hasRead_0 rfl ?_
  refine ex_tsw oq_X12_hasRead_1 rfl (fun c101 => ⟨rfl, ?_⟩) (fun i hi c101 => ?_)
  · show cw_X _ _ _ 213 _ _ _
    refine ex_al oq_X12_hasRead_213 rfl ?_
    refine ex_al oq_X12_hasRead_214 rfl ?_
    refine ex_gf oq_X12_hasRead_215 hT (k := 111) (d := 12) rfl rfl (fr_gateHas hT) ?_
    refine ex_il oq_X12_hasRead_218 rfl ?_
    refine ex_bi oq_X12_hasRead_219 (m := 12) (by decide) (fun x102 hx102 => ?_)
    refine ex_add oq_X12_hasRead_221 (by omega) (fun x103 hx103 => ?_)
    refine ex_ic oq_X12_hasRead_222 (m := 1) (by decide) (fun x104 hx104 => ?_)
    refine ex_ic oq_X12_hasRead_223 (m := 0) (by decide) (fun x105 hx105 => ?_)
    refine ex_si oq_X12_hasRead_224 (m := 200) (by decide) (fun x106 hx106 => ?_)
    refine ex_cv oq_X12_hasRead_227 (by decide) hT (k := 111) (d := 12) (as := [cv_r 119, cv_i x103, cv_i x104, cv_i x105, cv_i x106]) (stk := []) rfl rfl rfl rfl rfl rfl ⟨rfl, rfl⟩ (R := fun o => ∃ (x : Int32) (hb : cv_H), o = (some (cv_i x), hb) ∧ cw_T G hb ∧ cw_Fr cw_Ds cw_sh mk_gt h0 hb ∧ zFK h0 hb ∧ zRe t n h0 hb x (zns t n x105.toInt x106.toInt 1 p) (fun vs => (∀ i, i < 1 → ri_at hb 119 (b + 12 + i) = vs.getD i 0) ∧ ∀ i, (i < b + 12 ∨ b + 12 + 1 ≤ i) → ri_at hb 119 i = ri_at h0 119 i)) (rt_numbersHK (t := t) (n := n) (p := p) (f := b + 12) (m := 1) hT (by omega) hz (fun i hi => by rw [ht i hi, ← hA _ Fh0]) hn9 (fun i hi => by rw [hB _ Fh0]; exact hwr i hi) (by omega) (by omega) (by omega) (by omega) (by omega) (by omega) (fun x hb b1 b2 bk b3 => ⟨x, hb, rfl, b1, b2, bk, b3⟩)) (fun o ho => ?_)
    obtain ⟨x107, h108, rfl, Th108, Ch108, kh108, dx107⟩ := ho
    show cw_X _ _ _ _ _ [cv_i x107] h108
    have Fh108 : cw_Fr cw_Ds cw_sh mk_gt h0 h108 := cw_Fr_tr Fh0 (cw_Fr_mono (by decide +kernel) Ch108)
    have Kh108 := zFK_tr Kh0 kh108
    rw [hx105] at dx107
    rw [hx106] at dx107
    have eh108_111_16 : ri_at h108 111 16 = ri_at h0 111 16 := ri_frf Ch108 (d := 12) rfl rfl (by decide +kernel)
    have hx01 : 0 ≤ x107.toInt ∧ x107.toInt ≤ 1 := by rcases dx107 with ⟨v, q, e1, e2, e3, _⟩ | ⟨f, a, e1, e2, _⟩ <;> omega
    refine ex_retb oq_X12_hasRead_230 rfl hx01.1 hx01.2 (hQ x107 h108 Th108 Fh108 Kh108 ?_)
    rcases dx107 with ⟨v, q, e1, e2, e3, e4, e5, e6, e7⟩ | ⟨f, a, e1, e2, e3, e4, e5⟩
    · exact .inl ⟨_, _, (by unfold zhs; rw [if_neg (by omega), if_neg (by omega), if_neg (by omega), if_neg (by omega), if_neg (by omega), if_neg (by omega), if_neg (by omega), zb2_r e1]), e2, e3, e4, e5, e6, (e7.2 (b + 1) (by omega)).trans hg1, hcm, (e7.2 (b + 14) (by omega)).trans hg14⟩
    · exact .inr ⟨_, _, (by unfold zhs; rw [if_neg (by omega), if_neg (by omega), if_neg (by omega), if_neg (by omega), if_neg (by omega), if_neg (by omega), if_neg (by omega), zb2_l e1]), e2, e3, e4, e5⟩
  · match i, hi, c101 with
    | 0, _, c101 =>
      refine ⟨rfl, ?_⟩
      show cw_X _ _ _ 44 _ _ _
      refine ex_al oq_X12_hasRead_44 rfl ?_
      refine ex_il oq_X12_hasRead_45 rfl ?_
      refine ex_cv oq_X12_hasRead_46 (by decide) hT (k := 111) (d := 12) (as := [cv_i g]) (stk := []) rfl rfl rfl rfl rfl rfl ⟨rfl, rfl⟩ (R := fun o => ∃ (x : Int32) (hb : cv_H), o = (some (cv_i x), hb) ∧ cw_T G hb ∧ cw_Fr cw_Ds cw_sh mk_gt h0 hb ∧ zFK h0 hb ∧ zRe t n h0 hb x (zhk t n hh p) (fun _ => ri_at hb 119 (b + 1) = hh ∧ ri_at hb 119 (b + 14) = cm)) (rt_hooksReadK (t := t) (n := n) (p := p) (b := b) (hh := hh) (cm := cm) (fun i hi => by rw [ht i hi, ← hA _ Fh0]) hn9 hT (fun i hi => by rw [hB _ Fh0]; exact hwr i hi) (by omega) hz hg hb (by omega) hg1 hh2 hg14 (fun x hb b1 b2 bk b3 => ⟨x, hb, rfl, b1, b2, bk, b3⟩)) (fun o ho => ?_)
      obtain ⟨x109, h110, rfl, Th110, Ch110, kh110, dx109⟩ := ho
      show cw_X _ _ _ _ _ [cv_i x109] h110
      have Fh110 : cw_Fr cw_Ds cw_sh mk_gt h0 h110 := cw_Fr_tr Fh0 (cw_Fr_mono (by decide +kernel) Ch110)
      have Kh110 := zFK_tr Kh0 kh110
      have eh110_111_16 : ri_at h110 111 16 = ri_at h0 111 16 := ri_frf Ch110 (d := 12) rfl rfl (by decide +kernel)
      have hx01 : 0 ≤ x109.toInt ∧ x109.toInt ≤ 1 := by rcases dx109 with ⟨v, q, e1, e2, e3, _⟩ | ⟨f, a, e1, e2, _⟩ <;> omega
      refine ex_retb oq_X12_hasRead_49 rfl hx01.1 hx01.2 (hQ x109 h110 Th110 Fh110 Kh110 ?_)
      rcases dx109 with ⟨v, q, e1, e2, e3, e4, e5, e6, e7⟩ | ⟨f, a, e1, e2, e3, e4, e5⟩
      · exact .inl ⟨_, _, (by unfold zhs; rw [if_pos (by omega), zb2_r e1]), e2, e3, e4, e5, e6, e7.1, hcm, e7.2⟩
      · exact .inr ⟨_, _, (by unfold zhs; rw [if_pos (by omega), zb2_l e1]), e2, e3, e4, e5⟩
    | 1, _, c101 =>
      refine ⟨rfl, ?_⟩
      show cw_X _ _ _ 50 _ _ _
      refine ex_al oq_X12_hasRead_50 rfl ?_
      refine ex_bi oq_X12_hasRead_51 (m := 12) (by decide) (fun x111 hx111 => ?_)
      refine ex_bi oq_X12_hasRead_53 (m := 60) (by decide) (fun x112 hx112 => ?_)
      refine ex_cv oq_X12_hasRead_55 (by decide) hT (k := 111) (d := 12) (as := [cv_i x111, cv_i x112]) (stk := []) rfl rfl rfl rfl rfl rfl ⟨rfl, rfl⟩ (R := fun o => ∃ (x : Int32) (hb : cv_H), o = (some (cv_i x), hb) ∧ cw_T G hb ∧ cw_Fr cw_Ds cw_sh kk_X12_number.2.2.2.2.2.1 h0 hb ∧ zRe t n h0 hb x (zn t n x111.toInt x112.toInt p) (fun v => ri_at hb 111 11 = v)) (rt_number (t := t) (n := n) (p := p) (fun i hi => by rw [ht i hi, ← hA _ Fh0]) hn9 hT (fun i hi => by rw [hB _ Fh0]; exact hwr i hi) (by omega) hz x111 x112 (fun x hb b1 b2 b3 => ⟨x, hb, rfl, b1, b2, b3⟩)) (fun o ho => ?_)
      obtain ⟨x113, h114, rfl, Th114, Ch114, dx113⟩ := ho
      show cw_X _ _ _ _ _ [cv_i x113] h114
      have Fh114 : cw_Fr cw_Ds cw_sh mk_gt h0 h114 := cw_Fr_tr Fh0 (cw_Fr_mono (by decide +kernel) Ch114)
      have Kh114 := zFK_fr Ch114 (by decide +kernel) Kh0
      rw [hx111] at dx113
      rw [hx112] at dx113
      have eh114_111_16 : ri_at h114 111 16 = ri_at h0 111 16 := ri_frf Ch114 (d := 12) rfl rfl (by decide +kernel)
      have eh114_r1 : ri_at h114 119 (b + 1) = hh := (ri_frq Ch114 (k := 119) (d := 58) rfl rfl (by decide) (by decide +kernel)).trans hg1
      have eh114_r14 : ri_at h114 119 (b + 14) = (cm : Int) := (ri_frq Ch114 (k := 119) (d := 58) rfl rfl (by decide) (by decide +kernel)).trans hg14
      refine ex_if0 oq_X12_hasRead_58 (t := 63) rfl rfl (fun (c115 : ¬ x113.toInt = 0) => ?_) (fun (c115 : ¬ (¬ x113.toInt = 0)) => ?_)
      · obtain ⟨v1, q1, e1_1, e1_2, ax113, Zh114, e1_5, e1_6, e1_7⟩ := zRe_yes dx113 c115
        clear dx113 c115
        obtain ⟨yah114, ybh114, ych114, ydh114, -⟩ := id Zh114
        have zlh114 := zx_le (t := t) (n := n) (p := q1) (by omega)
        have e1_8 := zn_rg e1_1
        refine ex_al oq_X12_hasRead_63 rfl ?_
        refine ex_gf oq_X12_hasRead_64 Th114 (k := 111) (d := 12) rfl rfl (fr_gateHas Th114) ?_
        refine ex_il oq_X12_hasRead_67 rfl ?_
        refine ex_bi oq_X12_hasRead_68 (m := 7) (by decide) (fun x116 hx116 => ?_)
        refine ex_add oq_X12_hasRead_70 (by omega) (fun x117 hx117 => ?_)
        refine ex_al oq_X12_hasRead_71 rfl ?_
        obtain ⟨x118, ax118, rx118, lx118, ux118⟩ := fi_got Th114
        refine ex_gf oq_X12_hasRead_72 Th114 (k := 111) (d := 12) rfl rfl ax118 ?_
        have rx118 := (rx118.symm.trans e1_7 : x118.toInt = v1)
        refine ex_iw oq_X12_hasRead_75 Th114 (k := 119) (d := 58) (j := b + 7) rfl rfl (by omega) (by omega) (fun r hr => gh_get hr _ (cw_i32 _)) (fun h119 Th119 wh119 => ?_)
        have Fh119 : cw_Fr cw_Ds cw_sh mk_gt h0 h119 := cw_Fr_tr Fh114 (cw_Fr_wrr wh119 (k := 119) (d := 58) rfl rfl (by decide +kernel))
        have Kh119 := zFK_wr (k := 119) wh119 ((by show 64 ≤ _; omega)) Kh114
        have eh119_111_4 : ri_at h119 111 4 = ri_at h0 111 4 := (ri_ne wh119 (.inl (by decide))).trans e1_5
        have eh119_111_5 : ri_at h119 111 5 = ri_at h0 111 5 := (ri_ne wh119 (.inl (by decide))).trans e1_6
        have eh119_111_6 : ri_at h119 111 6 = (n : Int) := (ri_ne wh119 (.inl (by decide))).trans yah114
        have eh119_111_7 : ri_at h119 111 7 = ((zx t n q1 : Nat) : Int) := (ri_ne wh119 (.inl (by decide))).trans ych114
        have eh119_111_8 : ri_at h119 111 8 = zk t n q1 := (ri_ne wh119 (.inl (by decide))).trans ydh114
        have eh119_111_10 : ri_at h119 111 10 = ((za t n q1 : Nat) : Int) := (ri_ne wh119 (.inl (by decide))).trans ybh114
        have eh119_111_11 : ri_at h119 111 11 = v1 := (ri_ne wh119 (.inl (by decide))).trans e1_7
        have eh119_111_16 : ri_at h119 111 16 = ri_at h0 111 16 := (ri_ne wh119 (.inl (by decide))).trans eh114_111_16
        clear eh114_111_16
        have eh119_r1 : ri_at h119 119 (b + 1) = hh := (ri_ne wh119 (.inr (by omega))).trans eh114_r1
        clear eh114_r1
        have eh119_r14 : ri_at h119 119 (b + 14) = (cm : Int) := (ri_ne wh119 (.inr (by omega))).trans eh114_r14
        clear eh114_r14
        have Zh119 := zR_wr wh119 Zh114 (.inl (by decide))
        refine ex_al oq_X12_hasRead_76 rfl ?_
        refine ex_al oq_X12_hasRead_77 rfl ?_
        refine ex_gf oq_X12_hasRead_78 Th119 (k := 111) (d := 12) rfl rfl (fr_gateHas Th119) ?_
        refine ex_il oq_X12_hasRead_81 rfl ?_
        refine ex_bi oq_X12_hasRead_82 (m := 8) (by decide) (fun x120 hx120 => ?_)
        refine ex_add oq_X12_hasRead_84 (by omega) (fun x121 hx121 => ?_)
        refine ex_ic oq_X12_hasRead_85 (m := 1) (by decide) (fun x122 hx122 => ?_)
        refine ex_ic oq_X12_hasRead_86 (m := 3) (by decide) (fun x123 hx123 => ?_)
        refine ex_bi oq_X12_hasRead_87 (m := 14) (by decide) (fun x124 hx124 => ?_)
        refine ex_cv oq_X12_hasRead_89 (by decide) Th119 (k := 111) (d := 12) (as := [cv_r 119, cv_i x121, cv_i x122, cv_i x123, cv_i x124]) (stk := []) rfl rfl rfl rfl rfl rfl ⟨rfl, rfl⟩ (R := fun o => ∃ (x : Int32) (hb : cv_H), o = (some (cv_i x), hb) ∧ cw_T G hb ∧ cw_Fr cw_Ds cw_sh mk_gt h119 hb ∧ zFK h119 hb ∧ zRe t n h119 hb x (zns t n x123.toInt x124.toInt 1 q1) (fun vs => (∀ i, i < 1 → ri_at hb 119 (b + 8 + i) = vs.getD i 0) ∧ ∀ i, (i < b + 8 ∨ b + 8 + 1 ≤ i) → ri_at hb 119 i = ri_at h119 119 i)) (rt_numbersHK (t := t) (n := n) (p := q1) (f := b + 8) (m := 1) Th119 (by omega) Zh119 (fun i hi => by rw [ht i hi, ← hA _ Fh119]) hn9 (fun i hi => by rw [hB _ Fh119]; exact hwr i hi) (by omega) (by omega) (by omega) (by omega) (by omega) (by omega) (fun x hb b1 b2 bk b3 => ⟨x, hb, rfl, b1, b2, bk, b3⟩)) (fun o ho => ?_)
        obtain ⟨x125, h126, rfl, Th126, Ch126, kh126, dx125⟩ := ho
        show cw_X _ _ _ _ _ [cv_i x125] h126
        have Fh126 : cw_Fr cw_Ds cw_sh mk_gt h0 h126 := cw_Fr_tr Fh119 (cw_Fr_mono (by decide +kernel) Ch126)
        have Kh126 := zFK_tr Kh119 kh126
        rw [hx123] at dx125
        rw [hx124] at dx125
        have eh126_111_16 : ri_at h126 111 16 = ri_at h0 111 16 := (ri_frf Ch126 (d := 12) rfl rfl (by decide +kernel)).trans eh119_111_16
        clear eh119_111_16
        have hx01 : 0 ≤ x125.toInt ∧ x125.toInt ≤ 1 := by rcases dx125 with ⟨v, q, e1, e2, e3, _⟩ | ⟨f, a, e1, e2, _⟩ <;> omega
        refine ex_retb oq_X12_hasRead_92 rfl hx01.1 hx01.2 (hQ x125 h126 Th126 Fh126 Kh126 ?_)
        rcases dx125 with ⟨v, q, e1, e2, e3, e4, e5, e6, e7⟩ | ⟨f, a, e1, e2, e3, e4, e5⟩
        · exact .inl ⟨_, _, (by unfold zhs; rw [if_neg (by omega), if_pos (by omega), zb2_r e1_1, zb2_r e1]), e2, e3, e4, e5.trans eh119_111_4, e6.trans eh119_111_5, (e7.2 (b + 1) (by omega)).trans eh119_r1, hcm, (e7.2 (b + 14) (by omega)).trans eh119_r14⟩
        · exact .inr ⟨_, _, (by unfold zhs; rw [if_neg (by omega), if_pos (by omega), zb2_r e1_1, zb2_l e1]), e2, e3, e4, e5⟩
      · replace c115 : x113.toInt = 0 := by omega
        obtain ⟨fc2, fa2, e2_1, ax113, e2_3, e2_4, e2_5⟩ := zRe_no dx113 c115
        clear dx113
        refine ex_ic oq_X12_hasRead_61 (m := 0) (by decide) (fun x127 hx127 => ?_)
        exact ex_retb oq_X12_hasRead_62 rfl (by omega) (by omega) (hQ x127 h114 Th114 Fh114 Kh114 (.inr ⟨_, _, (by unfold zhs; rw [if_neg (by omega), if_pos (by omega), zb2_l e2_1]), by omega, by omega, by omega, by omega⟩))
    | 2, _, c101 =>
      refine ⟨rfl, ?_⟩
      show cw_X _ _ _ 93 _ _ _
      refine ex_al oq_X12_hasRead_93 rfl ?_
      refine ex_bi oq_X12_hasRead_94 (m := 28) (by decide) (fun x128 hx128 => ?_)
      refine ex_cv oq_X12_hasRead_96 (by decide) hT (k := 111) (d := 12) (as := [cv_i x128]) (stk := []) rfl rfl rfl rfl rfl rfl ⟨rfl, rfl⟩ (R := fun o => ∃ x : Int32, o = (some (cv_i x), h0) ∧ (x.toInt = 1 ∧ zk t n p = 1 ∧ zw t n p = x128.toInt ∨ x.toInt = 0 ∧ ¬ (zk t n p = 1 ∧ zw t n p = x128.toInt))) (rt_isKey (t := t) (n := n) (p := p) hT (by exact hz) x128 (fun x q => ⟨x, rfl, q⟩)) (fun o ho => ?_)
      obtain ⟨x129, rfl, dx129⟩ := ho
      show cw_X _ _ _ _ _ [cv_i x129] h0
      rw [hx128] at dx129
      refine ex_if0 oq_X12_hasRead_99 (t := 117) rfl rfl (fun (c130 : ¬ x129.toInt = 0) => ?_) (fun (c130 : ¬ (¬ x129.toInt = 0)) => ?_)
      · obtain ⟨_, dx129, dx129b⟩ := isin_y dx129 c130
        refine ex_al oq_X12_hasRead_117 rfl ?_
        refine ex_gf oq_X12_hasRead_118 hT (k := 111) (d := 12) rfl rfl (fr_gateHas hT) ?_
        refine ex_il oq_X12_hasRead_121 rfl ?_
        refine ex_bi oq_X12_hasRead_122 (m := 9) (by decide) (fun x131 hx131 => ?_)
        refine ex_add oq_X12_hasRead_124 (by omega) (fun x132 hx132 => ?_)
        refine ex_al oq_X12_hasRead_125 rfl ?_
        refine ex_bi oq_X12_hasRead_126 (m := 28) (by decide) (fun x133 hx133 => ?_)
        refine ex_cv oq_X12_hasRead_128 (by decide) hT (k := 111) (d := 12) (as := [cv_i x133]) (stk := [cv_i x132, cv_r 119]) rfl rfl rfl rfl rfl rfl ⟨rfl, rfl⟩ (R := fun o => ∃ x : Int32, o = (some (cv_i x), h0) ∧ (x.toInt = 1 ∧ zk t n p = 1 ∧ zw t n p = x133.toInt ∨ x.toInt = 0 ∧ ¬ (zk t n p = 1 ∧ zw t n p = x133.toInt))) (rt_isKey (t := t) (n := n) (p := p) hT (by exact hz) x133 (fun x q => ⟨x, rfl, q⟩)) (fun o ho => ?_)
        obtain ⟨x134, rfl, dx134⟩ := ho
        show cw_X _ _ _ _ _ [cv_i x134, cv_i x132, cv_r 119] h0
        rw [hx133] at dx134
        refine ex_if0 oq_X12_hasRead_131 (t := 138) rfl rfl (fun (c135 : x134.toInt = 0) => ?_) (fun (c135 : ¬ (x134.toInt = 0)) => ?_)
        · replace dx134 := flag_n dx134 c135
          refine ex_ic oq_X12_hasRead_138 (m := 2) (by decide) (fun x136 hx136 => ?_)
          refine ex_iw oq_X12_hasRead_139 hT (k := 119) (d := 58) (j := b + 9) rfl rfl (by omega) (by omega) (fun r hr => gh_get hr _ (cw_i32 _)) (fun h137 Th137 wh137 => ?_)
          have Fh137 : cw_Fr cw_Ds cw_sh mk_gt h0 h137 := cw_Fr_tr Fh0 (cw_Fr_wrr wh137 (k := 119) (d := 58) rfl rfl (by decide +kernel))
          have Kh137 := zFK_wr (k := 119) wh137 ((by show 64 ≤ _; omega)) Kh0
          have eh137_111_4 : ri_at h137 111 4 = ri_at h0 111 4 := ri_ne wh137 (.inl (by decide))
          have eh137_111_5 : ri_at h137 111 5 = ri_at h0 111 5 := ri_ne wh137 (.inl (by decide))
          have eh137_111_6 : ri_at h137 111 6 = (n : Int) := (ri_ne wh137 (.inl (by decide))).trans z1
          have eh137_111_7 : ri_at h137 111 7 = ((zx t n p : Nat) : Int) := (ri_ne wh137 (.inl (by decide))).trans z3
          have eh137_111_8 : ri_at h137 111 8 = zk t n p := (ri_ne wh137 (.inl (by decide))).trans z4
          have eh137_111_10 : ri_at h137 111 10 = ((za t n p : Nat) : Int) := (ri_ne wh137 (.inl (by decide))).trans z2
          have eh137_111_11 : ri_at h137 111 11 = ri_at h0 111 11 := ri_ne wh137 (.inl (by decide))
          have eh137_111_16 : ri_at h137 111 16 = ri_at h0 111 16 := ri_ne wh137 (.inl (by decide))
          have eh137_r1 : ri_at h137 119 (b + 1) = hh := (ri_ne wh137 (.inr (by omega))).trans hg1
          have eh137_r14 : ri_at h137 119 (b + 14) = (cm : Int) := (ri_ne wh137 (.inr (by omega))).trans hg14
          have Zh137 := zR_wr wh137 hz (.inl (by decide))
          refine ex_al oq_X12_hasRead_140 rfl ?_
          refine ex_cv oq_X12_hasRead_141 (by decide) Th137 (k := 111) (d := 12) (as := []) (stk := []) rfl rfl rfl rfl rfl rfl ⟨rfl, rfl⟩ (R := fun o => ∃ hb : cv_H, o = (none, hb) ∧ cw_T G hb ∧ cw_Fr cw_Ds cw_sh kk_X12_token.2.2.2.2.2.1 h137 hb ∧ zR t n (zx t n p) hb) (rt_tok (t := t) (n := n) (p := (zx t n p)) (fun i hi => by rw [ht i hi, ← hA _ Fh137]) hn9 (fun i hi => by rw [hB _ Fh137]; exact hwr i hi) Th137 (zx_le (by omega)) (by omega) (by omega) (fun hb b1 b2 b3 => ⟨hb, rfl, b1, b2, b3⟩)) (fun o ho => ?_)
          obtain ⟨h138, rfl, Th138, Ch138, Zh138⟩ := ho
          show cw_X _ _ _ _ _ [] h138
          have Fh138 : cw_Fr cw_Ds cw_sh mk_gt h0 h138 := cw_Fr_tr Fh137 (cw_Fr_mono (by decide +kernel) Ch138)
          have Kh138 := zFK_fr Ch138 (by decide +kernel) Kh137
          have eh138_111_4 : ri_at h138 111 4 = ri_at h0 111 4 := (ri_frf Ch138 (d := 12) rfl rfl (by decide +kernel)).trans eh137_111_4
          clear eh137_111_4
          have eh138_111_5 : ri_at h138 111 5 = ri_at h0 111 5 := (ri_frf Ch138 (d := 12) rfl rfl (by decide +kernel)).trans eh137_111_5
          clear eh137_111_5
          have eh138_111_11 : ri_at h138 111 11 = ri_at h0 111 11 := (ri_frf Ch138 (d := 12) rfl rfl (by decide +kernel)).trans eh137_111_11
          clear eh137_111_11
          have eh138_111_16 : ri_at h138 111 16 = ri_at h0 111 16 := (ri_frf Ch138 (d := 12) rfl rfl (by decide +kernel)).trans eh137_111_16
          clear eh137_111_16
          have eh138_r1 : ri_at h138 119 (b + 1) = hh := (ri_frq Ch138 (k := 119) (d := 58) rfl rfl (by decide) (by decide +kernel)).trans eh137_r1
          clear eh137_r1
          have eh138_r14 : ri_at h138 119 (b + 14) = (cm : Int) := (ri_frq Ch138 (k := 119) (d := 58) rfl rfl (by decide) (by decide +kernel)).trans eh137_r14
          clear eh137_r14
          obtain ⟨yah138, ybh138, ych138, ydh138, -⟩ := id Zh138
          have zlh138 := zx_le (t := t) (n := n) (p := (zx t n p)) (by omega)
          clear eh137_111_6 eh137_111_10 eh137_111_7 eh137_111_8
          refine ex_ic oq_X12_hasRead_144 (m := 1) (by decide) (fun x139 hx139 => ?_)
          exact ex_retb oq_X12_hasRead_145 rfl (by omega) (by omega) (hQ x139 h138 Th138 Fh138 Kh138 (.inl ⟨_, _, (by unfold zhs; rw [if_neg (by omega), if_neg (by omega), if_pos (by omega), if_pos (by omega)]), by omega, by omega, Zh138, by omega, by omega, eh138_r1, hcm, eh138_r14⟩))
        · replace c135 : ¬ x134.toInt = 0 := by omega
          obtain ⟨_, dx134, dx134b⟩ := isin_y dx134 c135
          refine ex_ic oq_X12_hasRead_134 (m := 1) (by decide) (fun x140 hx140 => ?_)
          refine ex_go oq_X12_hasRead_135 (t := 139) rfl rfl ?_
          refine ex_iw oq_X12_hasRead_139 hT (k := 119) (d := 58) (j := b + 9) rfl rfl (by omega) (by omega) (fun r hr => gh_get hr _ (cw_i32 _)) (fun h141 Th141 wh141 => ?_)
          have Fh141 : cw_Fr cw_Ds cw_sh mk_gt h0 h141 := cw_Fr_tr Fh0 (cw_Fr_wrr wh141 (k := 119) (d := 58) rfl rfl (by decide +kernel))
          have Kh141 := zFK_wr (k := 119) wh141 ((by show 64 ≤ _; omega)) Kh0
          have eh141_111_4 : ri_at h141 111 4 = ri_at h0 111 4 := ri_ne wh141 (.inl (by decide))
          have eh141_111_5 : ri_at h141 111 5 = ri_at h0 111 5 := ri_ne wh141 (.inl (by decide))
          have eh141_111_6 : ri_at h141 111 6 = (n : Int) := (ri_ne wh141 (.inl (by decide))).trans z1
          have eh141_111_7 : ri_at h141 111 7 = ((zx t n p : Nat) : Int) := (ri_ne wh141 (.inl (by decide))).trans z3
          have eh141_111_8 : ri_at h141 111 8 = zk t n p := (ri_ne wh141 (.inl (by decide))).trans z4
          have eh141_111_10 : ri_at h141 111 10 = ((za t n p : Nat) : Int) := (ri_ne wh141 (.inl (by decide))).trans z2
          have eh141_111_11 : ri_at h141 111 11 = ri_at h0 111 11 := ri_ne wh141 (.inl (by decide))
          have eh141_111_16 : ri_at h141 111 16 = ri_at h0 111 16 := ri_ne wh141 (.inl (by decide))
          have eh141_r1 : ri_at h141 119 (b + 1) = hh := (ri_ne wh141 (.inr (by omega))).trans hg1
          have eh141_r14 : ri_at h141 119 (b + 14) = (cm : Int) := (ri_ne wh141 (.inr (by omega))).trans hg14
          have Zh141 := zR_wr wh141 hz (.inl (by decide))
          refine ex_al oq_X12_hasRead_140 rfl ?_
          refine ex_cv oq_X12_hasRead_141 (by decide) Th141 (k := 111) (d := 12) (as := []) (stk := []) rfl rfl rfl rfl rfl rfl ⟨rfl, rfl⟩ (R := fun o => ∃ hb : cv_H, o = (none, hb) ∧ cw_T G hb ∧ cw_Fr cw_Ds cw_sh kk_X12_token.2.2.2.2.2.1 h141 hb ∧ zR t n (zx t n p) hb) (rt_tok (t := t) (n := n) (p := (zx t n p)) (fun i hi => by rw [ht i hi, ← hA _ Fh141]) hn9 (fun i hi => by rw [hB _ Fh141]; exact hwr i hi) Th141 (zx_le (by omega)) (by omega) (by omega) (fun hb b1 b2 b3 => ⟨hb, rfl, b1, b2, b3⟩)) (fun o ho => ?_)
          obtain ⟨h142, rfl, Th142, Ch142, Zh142⟩ := ho
          show cw_X _ _ _ _ _ [] h142
          have Fh142 : cw_Fr cw_Ds cw_sh mk_gt h0 h142 := cw_Fr_tr Fh141 (cw_Fr_mono (by decide +kernel) Ch142)
          have Kh142 := zFK_fr Ch142 (by decide +kernel) Kh141
          have eh142_111_4 : ri_at h142 111 4 = ri_at h0 111 4 := (ri_frf Ch142 (d := 12) rfl rfl (by decide +kernel)).trans eh141_111_4
          clear eh141_111_4
          have eh142_111_5 : ri_at h142 111 5 = ri_at h0 111 5 := (ri_frf Ch142 (d := 12) rfl rfl (by decide +kernel)).trans eh141_111_5
          clear eh141_111_5
          have eh142_111_11 : ri_at h142 111 11 = ri_at h0 111 11 := (ri_frf Ch142 (d := 12) rfl rfl (by decide +kernel)).trans eh141_111_11
          clear eh141_111_11
          have eh142_111_16 : ri_at h142 111 16 = ri_at h0 111 16 := (ri_frf Ch142 (d := 12) rfl rfl (by decide +kernel)).trans eh141_111_16
          clear eh141_111_16
          have eh142_r1 : ri_at h142 119 (b + 1) = hh := (ri_frq Ch142 (k := 119) (d := 58) rfl rfl (by decide) (by decide +kernel)).trans eh141_r1
          clear eh141_r1
          have eh142_r14 : ri_at h142 119 (b + 14) = (cm : Int) := (ri_frq Ch142 (k := 119) (d := 58) rfl rfl (by decide) (by decide +kernel)).trans eh141_r14
          clear eh141_r14
          obtain ⟨yah142, ybh142, ych142, ydh142, -⟩ := id Zh142
          have zlh142 := zx_le (t := t) (n := n) (p := (zx t n p)) (by omega)
          clear eh141_111_6 eh141_111_10 eh141_111_7 eh141_111_8
          refine ex_ic oq_X12_hasRead_144 (m := 1) (by decide) (fun x143 hx143 => ?_)
          exact ex_retb oq_X12_hasRead_145 rfl (by omega) (by omega) (hQ x143 h142 Th142 Fh142 Kh142 (.inl ⟨_, _, (by unfold zhs; rw [if_neg (by omega), if_neg (by omega), if_pos (by omega), if_pos (by omega)]), by omega, by omega, Zh142, by omega, by omega, eh142_r1, hcm, eh142_r14⟩))
      · replace c130 : x129.toInt = 0 := by omega
        replace dx129 := flag_n dx129 c130
        refine ex_al oq_X12_hasRead_102 rfl ?_
        refine ex_bi oq_X12_hasRead_103 (m := 29) (by decide) (fun x144 hx144 => ?_)
        refine ex_cv oq_X12_hasRead_105 (by decide) hT (k := 111) (d := 12) (as := [cv_i x144]) (stk := []) rfl rfl rfl rfl rfl rfl ⟨rfl, rfl⟩ (R := fun o => ∃ x : Int32, o = (some (cv_i x), h0) ∧ (x.toInt = 1 ∧ zk t n p = 1 ∧ zw t n p = x144.toInt ∨ x.toInt = 0 ∧ ¬ (zk t n p = 1 ∧ zw t n p = x144.toInt))) (rt_isKey (t := t) (n := n) (p := p) hT (by exact hz) x144 (fun x q => ⟨x, rfl, q⟩)) (fun o ho => ?_)
        obtain ⟨x145, rfl, dx145⟩ := ho
        show cw_X _ _ _ _ _ [cv_i x145] h0
        rw [hx144] at dx145
        refine ex_if0 oq_X12_hasRead_108 (t := 117) rfl rfl (fun (c146 : ¬ x145.toInt = 0) => ?_) (fun (c146 : ¬ (¬ x145.toInt = 0)) => ?_)
        · obtain ⟨_, dx145, dx145b⟩ := isin_y dx145 c146
          refine ex_al oq_X12_hasRead_117 rfl ?_
          refine ex_gf oq_X12_hasRead_118 hT (k := 111) (d := 12) rfl rfl (fr_gateHas hT) ?_
          refine ex_il oq_X12_hasRead_121 rfl ?_
          refine ex_bi oq_X12_hasRead_122 (m := 9) (by decide) (fun x147 hx147 => ?_)
          refine ex_add oq_X12_hasRead_124 (by omega) (fun x148 hx148 => ?_)
          refine ex_al oq_X12_hasRead_125 rfl ?_
          refine ex_bi oq_X12_hasRead_126 (m := 28) (by decide) (fun x149 hx149 => ?_)
          refine ex_cv oq_X12_hasRead_128 (by decide) hT (k := 111) (d := 12) (as := [cv_i x149]) (stk := [cv_i x148, cv_r 119]) rfl rfl rfl rfl rfl rfl ⟨rfl, rfl⟩ (R := fun o => ∃ x : Int32, o = (some (cv_i x), h0) ∧ (x.toInt = 1 ∧ zk t n p = 1 ∧ zw t n p = x149.toInt ∨ x.toInt = 0 ∧ ¬ (zk t n p = 1 ∧ zw t n p = x149.toInt))) (rt_isKey (t := t) (n := n) (p := p) hT (by exact hz) x149 (fun x q => ⟨x, rfl, q⟩)) (fun o ho => ?_)
          obtain ⟨x150, rfl, dx150⟩ := ho
          show cw_X _ _ _ _ _ [cv_i x150, cv_i x148, cv_r 119] h0
          rw [hx149] at dx150
          refine ex_if0 oq_X12_hasRead_131 (t := 138) rfl rfl (fun (c151 : x150.toInt = 0) => ?_) (fun (c151 : ¬ (x150.toInt = 0)) => ?_)
          · replace dx150 := flag_n dx150 c151
            refine ex_ic oq_X12_hasRead_138 (m := 2) (by decide) (fun x152 hx152 => ?_)
            refine ex_iw oq_X12_hasRead_139 hT (k := 119) (d := 58) (j := b + 9) rfl rfl (by omega) (by omega) (fun r hr => gh_get hr _ (cw_i32 _)) (fun h153 Th153 wh153 => ?_)
            have Fh153 : cw_Fr cw_Ds cw_sh mk_gt h0 h153 := cw_Fr_tr Fh0 (cw_Fr_wrr wh153 (k := 119) (d := 58) rfl rfl (by decide +kernel))
            have Kh153 := zFK_wr (k := 119) wh153 ((by show 64 ≤ _; omega)) Kh0
            have eh153_111_4 : ri_at h153 111 4 = ri_at h0 111 4 := ri_ne wh153 (.inl (by decide))
            have eh153_111_5 : ri_at h153 111 5 = ri_at h0 111 5 := ri_ne wh153 (.inl (by decide))
            have eh153_111_6 : ri_at h153 111 6 = (n : Int) := (ri_ne wh153 (.inl (by decide))).trans z1
            have eh153_111_7 : ri_at h153 111 7 = ((zx t n p : Nat) : Int) := (ri_ne wh153 (.inl (by decide))).trans z3
            have eh153_111_8 : ri_at h153 111 8 = zk t n p := (ri_ne wh153 (.inl (by decide))).trans z4
            have eh153_111_10 : ri_at h153 111 10 = ((za t n p : Nat) : Int) := (ri_ne wh153 (.inl (by decide))).trans z2
            have eh153_111_11 : ri_at h153 111 11 = ri_at h0 111 11 := ri_ne wh153 (.inl (by decide))
            have eh153_111_16 : ri_at h153 111 16 = ri_at h0 111 16 := ri_ne wh153 (.inl (by decide))
            have eh153_r1 : ri_at h153 119 (b + 1) = hh := (ri_ne wh153 (.inr (by omega))).trans hg1
            have eh153_r14 : ri_at h153 119 (b + 14) = (cm : Int) := (ri_ne wh153 (.inr (by omega))).trans hg14
            have Zh153 := zR_wr wh153 hz (.inl (by decide))
            refine ex_al oq_X12_hasRead_140 rfl ?_
            refine ex_cv oq_X12_hasRead_141 (by decide) Th153 (k := 111) (d := 12) (as := []) (stk := []) rfl rfl rfl rfl rfl rfl ⟨rfl, rfl⟩ (R := fun o => ∃ hb : cv_H, o = (none, hb) ∧ cw_T G hb ∧ cw_Fr cw_Ds cw_sh kk_X12_token.2.2.2.2.2.1 h153 hb ∧ zR t n (zx t n p) hb) (rt_tok (t := t) (n := n) (p := (zx t n p)) (fun i hi => by rw [ht i hi, ← hA _ Fh153]) hn9 (fun i hi => by rw [hB _ Fh153]; exact hwr i hi) Th153 (zx_le (by omega)) (by omega) (by omega) (fun hb b1 b2 b3 => ⟨hb, rfl, b1, b2, b3⟩)) (fun o ho => ?_)
            obtain ⟨h154, rfl, Th154, Ch154, Zh154⟩ := ho
            show cw_X _ _ _ _ _ [] h154
            have Fh154 : cw_Fr cw_Ds cw_sh mk_gt h0 h154 := cw_Fr_tr Fh153 (cw_Fr_mono (by decide +kernel) Ch154)
            have Kh154 := zFK_fr Ch154 (by decide +kernel) Kh153
            have eh154_111_4 : ri_at h154 111 4 = ri_at h0 111 4 := (ri_frf Ch154 (d := 12) rfl rfl (by decide +kernel)).trans eh153_111_4
            clear eh153_111_4
            have eh154_111_5 : ri_at h154 111 5 = ri_at h0 111 5 := (ri_frf Ch154 (d := 12) rfl rfl (by decide +kernel)).trans eh153_111_5
            clear eh153_111_5
            have eh154_111_11 : ri_at h154 111 11 = ri_at h0 111 11 := (ri_frf Ch154 (d := 12) rfl rfl (by decide +kernel)).trans eh153_111_11
            clear eh153_111_11
            have eh154_111_16 : ri_at h154 111 16 = ri_at h0 111 16 := (ri_frf Ch154 (d := 12) rfl rfl (by decide +kernel)).trans eh153_111_16
            clear eh153_111_16
            have eh154_r1 : ri_at h154 119 (b + 1) = hh := (ri_frq Ch154 (k := 119) (d := 58) rfl rfl (by decide) (by decide +kernel)).trans eh153_r1
            clear eh153_r1
            have eh154_r14 : ri_at h154 119 (b + 14) = (cm : Int) := (ri_frq Ch154 (k := 119) (d := 58) rfl rfl (by decide) (by decide +kernel)).trans eh153_r14
            clear eh153_r14
            obtain ⟨yah154, ybh154, ych154, ydh154, -⟩ := id Zh154
            have zlh154 := zx_le (t := t) (n := n) (p := (zx t n p)) (by omega)
            clear eh153_111_6 eh153_111_10 eh153_111_7 eh153_111_8
            refine ex_ic oq_X12_hasRead_144 (m := 1) (by decide) (fun x155 hx155 => ?_)
            exact ex_retb oq_X12_hasRead_145 rfl (by omega) (by omega) (hQ x155 h154 Th154 Fh154 Kh154 (.inl ⟨_, _, (by unfold zhs; rw [if_neg (by omega), if_neg (by omega), if_pos (by omega), if_pos (by omega)]), by omega, by omega, Zh154, by omega, by omega, eh154_r1, hcm, eh154_r14⟩))
          · replace c151 : ¬ x150.toInt = 0 := by omega
            obtain ⟨_, dx150, dx150b⟩ := isin_y dx150 c151
            refine ex_ic oq_X12_hasRead_134 (m := 1) (by decide) (fun x156 hx156 => ?_)
            refine ex_go oq_X12_hasRead_135 (t := 139) rfl rfl ?_
            refine ex_iw oq_X12_hasRead_139 hT (k := 119) (d := 58) (j := b + 9) rfl rfl (by omega) (by omega) (fun r hr => gh_get hr _ (cw_i32 _)) (fun h157 Th157 wh157 => ?_)
            have Fh157 : cw_Fr cw_Ds cw_sh mk_gt h0 h157 := cw_Fr_tr Fh0 (cw_Fr_wrr wh157 (k := 119) (d := 58) rfl rfl (by decide +kernel))
            have Kh157 := zFK_wr (k := 119) wh157 ((by show 64 ≤ _; omega)) Kh0
            have eh157_111_4 : ri_at h157 111 4 = ri_at h0 111 4 := ri_ne wh157 (.inl (by decide))
            have eh157_111_5 : ri_at h157 111 5 = ri_at h0 111 5 := ri_ne wh157 (.inl (by decide))
            have eh157_111_6 : ri_at h157 111 6 = (n : Int) := (ri_ne wh157 (.inl (by decide))).trans z1
            have eh157_111_7 : ri_at h157 111 7 = ((zx t n p : Nat) : Int) := (ri_ne wh157 (.inl (by decide))).trans z3
            have eh157_111_8 : ri_at h157 111 8 = zk t n p := (ri_ne wh157 (.inl (by decide))).trans z4
            have eh157_111_10 : ri_at h157 111 10 = ((za t n p : Nat) : Int) := (ri_ne wh157 (.inl (by decide))).trans z2
            have eh157_111_11 : ri_at h157 111 11 = ri_at h0 111 11 := ri_ne wh157 (.inl (by decide))
            have eh157_111_16 : ri_at h157 111 16 = ri_at h0 111 16 := ri_ne wh157 (.inl (by decide))
            have eh157_r1 : ri_at h157 119 (b + 1) = hh := (ri_ne wh157 (.inr (by omega))).trans hg1
            have eh157_r14 : ri_at h157 119 (b + 14) = (cm : Int) := (ri_ne wh157 (.inr (by omega))).trans hg14
            have Zh157 := zR_wr wh157 hz (.inl (by decide))
            refine ex_al oq_X12_hasRead_140 rfl ?_
            refine ex_cv oq_X12_hasRead_141 (by decide) Th157 (k := 111) (d := 12) (as := []) (stk := []) rfl rfl rfl rfl rfl rfl ⟨rfl, rfl⟩ (R := fun o => ∃ hb : cv_H, o = (none, hb) ∧ cw_T G hb ∧ cw_Fr cw_Ds cw_sh kk_X12_token.2.2.2.2.2.1 h157 hb ∧ zR t n (zx t n p) hb) (rt_tok (t := t) (n := n) (p := (zx t n p)) (fun i hi => by rw [ht i hi, ← hA _ Fh157]) hn9 (fun i hi => by rw [hB _ Fh157]; exact hwr i hi) Th157 (zx_le (by omega)) (by omega) (by omega) (fun hb b1 b2 b3 => ⟨hb, rfl, b1, b2, b3⟩)) (fun o ho => ?_)
            obtain ⟨h158, rfl, Th158, Ch158, Zh158⟩ := ho
            show cw_X _ _ _ _ _ [] h158
            have Fh158 : cw_Fr cw_Ds cw_sh mk_gt h0 h158 := cw_Fr_tr Fh157 (cw_Fr_mono (by decide +kernel) Ch158)
            have Kh158 := zFK_fr Ch158 (by decide +kernel) Kh157
            have eh158_111_4 : ri_at h158 111 4 = ri_at h0 111 4 := (ri_frf Ch158 (d := 12) rfl rfl (by decide +kernel)).trans eh157_111_4
            clear eh157_111_4
            have eh158_111_5 : ri_at h158 111 5 = ri_at h0 111 5 := (ri_frf Ch158 (d := 12) rfl rfl (by decide +kernel)).trans eh157_111_5
            clear eh157_111_5
            have eh158_111_11 : ri_at h158 111 11 = ri_at h0 111 11 := (ri_frf Ch158 (d := 12) rfl rfl (by decide +kernel)).trans eh157_111_11
            clear eh157_111_11
            have eh158_111_16 : ri_at h158 111 16 = ri_at h0 111 16 := (ri_frf Ch158 (d := 12) rfl rfl (by decide +kernel)).trans eh157_111_16
            clear eh157_111_16
            have eh158_r1 : ri_at h158 119 (b + 1) = hh := (ri_frq Ch158 (k := 119) (d := 58) rfl rfl (by decide) (by decide +kernel)).trans eh157_r1
            clear eh157_r1
            have eh158_r14 : ri_at h158 119 (b + 14) = (cm : Int) := (ri_frq Ch158 (k := 119) (d := 58) rfl rfl (by decide) (by decide +kernel)).trans eh157_r14
            clear eh157_r14
            obtain ⟨yah158, ybh158, ych158, ydh158, -⟩ := id Zh158
            have zlh158 := zx_le (t := t) (n := n) (p := (zx t n p)) (by omega)
            clear eh157_111_6 eh157_111_10 eh157_111_7 eh157_111_8
            refine ex_ic oq_X12_hasRead_144 (m := 1) (by decide) (fun x159 hx159 => ?_)
            exact ex_retb oq_X12_hasRead_145 rfl (by omega) (by omega) (hQ x159 h158 Th158 Fh158 Kh158 (.inl ⟨_, _, (by unfold zhs; rw [if_neg (by omega), if_neg (by omega), if_pos (by omega), if_pos (by omega)]), by omega, by omega, Zh158, by omega, by omega, eh158_r1, hcm, eh158_r14⟩))
        · replace c146 : x145.toInt = 0 := by omega
          replace dx145 := flag_n dx145 c146
          refine ex_al oq_X12_hasRead_111 rfl ?_
          refine ex_ic oq_X12_hasRead_112 (m := 1) (by decide) (fun x160 hx160 => ?_)
          refine ex_cv oq_X12_hasRead_113 (by decide) hT (k := 111) (d := 12) (as := [cv_i x160]) (stk := []) rfl rfl rfl rfl rfl rfl ⟨rfl, rfl⟩ (R := fun o => ∃ (x : Int32) (hb : cv_H), o = (some (cv_i x), hb) ∧ cw_T G hb ∧ cw_Fr cw_Ds cw_sh kk_X12_wrong.2.2.2.2.2.1 h0 hb ∧ x.toInt = 0 ∧ ri_at hb 111 4 = x160.toInt ∧ ri_at hb 111 5 = ri_at h0 111 10) (rt_wrong hT x160 (fun x hb b1 b2 b3 b4 b5 => ⟨x, hb, rfl, b1, b2, b3, b4, b5⟩)) (fun o ho => ?_)
          obtain ⟨x161, h162, rfl, Th162, Ch162, zh162, fh162, ph162⟩ := ho
          show cw_X _ _ _ _ _ [cv_i x161] h162
          have Fh162 : cw_Fr cw_Ds cw_sh mk_gt h0 h162 := cw_Fr_tr Fh0 (cw_Fr_mono (by decide +kernel) Ch162)
          have Kh162 := zFK_fr Ch162 (by decide +kernel) Kh0
          exact ex_retb oq_X12_hasRead_116 rfl (by omega) (by omega) (hQ x161 h162 Th162 Fh162 Kh162 (.inr ⟨_, _, (by unfold zhs; rw [if_neg (by omega), if_neg (by omega), if_pos (by omega), if_neg (by omega)]), by omega, by omega, by omega, by decide⟩))
    | 3, _, c101 =>
      refine ⟨rfl, ?_⟩
      show cw_X _ _ _ 146 _ _ _
      refine ex_al oq_X12_hasRead_146 rfl ?_
      refine ex_al oq_X12_hasRead_147 rfl ?_
      refine ex_gf oq_X12_hasRead_148 hT (k := 111) (d := 12) rfl rfl (fr_gateHas hT) ?_
      refine ex_il oq_X12_hasRead_151 rfl ?_
      refine ex_bi oq_X12_hasRead_152 (m := 10) (by decide) (fun x163 hx163 => ?_)
      refine ex_add oq_X12_hasRead_154 (by omega) (fun x164 hx164 => ?_)
      refine ex_ic oq_X12_hasRead_155 (m := 2) (by decide) (fun x165 hx165 => ?_)
      refine ex_ic oq_X12_hasRead_156 (m := 0) (by decide) (fun x166 hx166 => ?_)
      refine ex_si oq_X12_hasRead_157 (m := 9999) (by decide) (fun x167 hx167 => ?_)
      refine ex_cv oq_X12_hasRead_160 (by decide) hT (k := 111) (d := 12) (as := [cv_r 119, cv_i x164, cv_i x165, cv_i x166, cv_i x167]) (stk := []) rfl rfl rfl rfl rfl rfl ⟨rfl, rfl⟩ (R := fun o => ∃ (x : Int32) (hb : cv_H), o = (some (cv_i x), hb) ∧ cw_T G hb ∧ cw_Fr cw_Ds cw_sh mk_gt h0 hb ∧ zFK h0 hb ∧ zRe t n h0 hb x (zns t n x166.toInt x167.toInt 2 p) (fun vs => (∀ i, i < 2 → ri_at hb 119 (b + 10 + i) = vs.getD i 0) ∧ ∀ i, (i < b + 10 ∨ b + 10 + 2 ≤ i) → ri_at hb 119 i = ri_at h0 119 i)) (rt_numbersHK (t := t) (n := n) (p := p) (f := b + 10) (m := 2) hT (by omega) hz (fun i hi => by rw [ht i hi, ← hA _ Fh0]) hn9 (fun i hi => by rw [hB _ Fh0]; exact hwr i hi) (by omega) (by omega) (by omega) (by omega) (by omega) (by omega) (fun x hb b1 b2 bk b3 => ⟨x, hb, rfl, b1, b2, bk, b3⟩)) (fun o ho => ?_)
      obtain ⟨x168, h169, rfl, Th169, Ch169, kh169, dx168⟩ := ho
      show cw_X _ _ _ _ _ [cv_i x168] h169
      have Fh169 : cw_Fr cw_Ds cw_sh mk_gt h0 h169 := cw_Fr_tr Fh0 (cw_Fr_mono (by decide +kernel) Ch169)
      have Kh169 := zFK_tr Kh0 kh169
      rw [hx166] at dx168
      rw [hx167] at dx168
      have eh169_111_16 : ri_at h169 111 16 = ri_at h0 111 16 := ri_frf Ch169 (d := 12) rfl rfl (by decide +kernel)
      have hx01 : 0 ≤ x168.toInt ∧ x168.toInt ≤ 1 := by rcases dx168 with ⟨v, q, e1, e2, e3, _⟩ | ⟨f, a, e1, e2, _⟩ <;> omega
      refine ex_retb oq_X12_hasRead_163 rfl hx01.1 hx01.2 (hQ x168 h169 Th169 Fh169 Kh169 ?_)
      rcases dx168 with ⟨v, q, e1, e2, e3, e4, e5, e6, e7⟩ | ⟨f, a, e1, e2, e3, e4, e5⟩
      · exact .inl ⟨_, _, (by unfold zhs; rw [if_neg (by omega), if_neg (by omega), if_neg (by omega), if_pos (by omega), zb2_r e1]), e2, e3, e4, e5, e6, (e7.2 (b + 1) (by omega)).trans hg1, hcm, (e7.2 (b + 14) (by omega)).trans hg14⟩
      · exact .inr ⟨_, _, (by unfold zhs; rw [if_neg (by omega), if_neg (by omega), if_neg (by omega), if_pos (by omega), zb2_l e1]), e2, e3, e4, e5⟩
    | 4, _, c101 =>
      refine ⟨rfl, ?_⟩
      show cw_X _ _ _ 164 _ _ _
      refine ex_al oq_X12_hasRead_164 rfl ?_
      refine ex_al oq_X12_hasRead_165 rfl ?_
      refine ex_gf oq_X12_hasRead_166 hT (k := 111) (d := 12) rfl rfl (fr_gateHas hT) ?_
      refine ex_il oq_X12_hasRead_169 rfl ?_
      refine ex_bi oq_X12_hasRead_170 (m := 13) (by decide) (fun x170 hx170 => ?_)
      refine ex_add oq_X12_hasRead_172 (by omega) (fun x171 hx171 => ?_)
      refine ex_ic oq_X12_hasRead_173 (m := 1) (by decide) (fun x172 hx172 => ?_)
      refine ex_ic oq_X12_hasRead_174 (m := 0) (by decide) (fun x173 hx173 => ?_)
      refine ex_si oq_X12_hasRead_175 (m := 9999) (by decide) (fun x174 hx174 => ?_)
      refine ex_cv oq_X12_hasRead_178 (by decide) hT (k := 111) (d := 12) (as := [cv_r 119, cv_i x171, cv_i x172, cv_i x173, cv_i x174]) (stk := []) rfl rfl rfl rfl rfl rfl ⟨rfl, rfl⟩ (R := fun o => ∃ (x : Int32) (hb : cv_H), o = (some (cv_i x), hb) ∧ cw_T G hb ∧ cw_Fr cw_Ds cw_sh mk_gt h0 hb ∧ zFK h0 hb ∧ zRe t n h0 hb x (zns t n x173.toInt x174.toInt 1 p) (fun vs => (∀ i, i < 1 → ri_at hb 119 (b + 13 + i) = vs.getD i 0) ∧ ∀ i, (i < b + 13 ∨ b + 13 + 1 ≤ i) → ri_at hb 119 i = ri_at h0 119 i)) (rt_numbersHK (t := t) (n := n) (p := p) (f := b + 13) (m := 1) hT (by omega) hz (fun i hi => by rw [ht i hi, ← hA _ Fh0]) hn9 (fun i hi => by rw [hB _ Fh0]; exact hwr i hi) (by omega) (by omega) (by omega) (by omega) (by omega) (by omega) (fun x hb b1 b2 bk b3 => ⟨x, hb, rfl, b1, b2, bk, b3⟩)) (fun o ho => ?_)
      obtain ⟨x175, h176, rfl, Th176, Ch176, kh176, dx175⟩ := ho
      show cw_X _ _ _ _ _ [cv_i x175] h176
      have Fh176 : cw_Fr cw_Ds cw_sh mk_gt h0 h176 := cw_Fr_tr Fh0 (cw_Fr_mono (by decide +kernel) Ch176)
      have Kh176 := zFK_tr Kh0 kh176
      rw [hx173] at dx175
      rw [hx174] at dx175
      have eh176_111_16 : ri_at h176 111 16 = ri_at h0 111 16 := ri_frf Ch176 (d := 12) rfl rfl (by decide +kernel)
      have hx01 : 0 ≤ x175.toInt ∧ x175.toInt ≤ 1 := by rcases dx175 with ⟨v, q, e1, e2, e3, _⟩ | ⟨f, a, e1, e2, _⟩ <;> omega
      refine ex_retb oq_X12_hasRead_181 rfl hx01.1 hx01.2 (hQ x175 h176 Th176 Fh176 Kh176 ?_)
      rcases dx175 with ⟨v, q, e1, e2, e3, e4, e5, e6, e7⟩ | ⟨f, a, e1, e2, e3, e4, e5⟩
      · exact .inl ⟨_, _, (by unfold zhs; rw [if_neg (by omega), if_neg (by omega), if_neg (by omega), if_neg (by omega), if_pos (by omega), zb2_r e1]), e2, e3, e4, e5, e6, (e7.2 (b + 1) (by omega)).trans hg1, hcm, (e7.2 (b + 14) (by omega)).trans hg14⟩
      · exact .inr ⟨_, _, (by unfold zhs; rw [if_neg (by omega), if_neg (by omega), if_neg (by omega), if_neg (by omega), if_pos (by omega), zb2_l e1]), e2, e3, e4, e5⟩
    | 5, _, c101 =>
      refine ⟨rfl, ?_⟩
      show cw_X _ _ _ 182 _ _ _
      refine ex_al oq_X12_hasRead_182 rfl ?_
      refine ex_al oq_X12_hasRead_183 rfl ?_
      refine ex_gf oq_X12_hasRead_184 hT (k := 111) (d := 12) rfl rfl (fr_rise hT) ?_
      refine ex_bi oq_X12_hasRead_187 (m := 36) (by decide) (fun x177 hx177 => ?_)
      refine ex_bi oq_X12_hasRead_189 (m := 9) (by decide) (fun x178 hx178 => ?_)
      refine ex_al oq_X12_hasRead_191 rfl ?_
      obtain ⟨x179, ax179, rx179, lx179, ux179⟩ := fi_gatesRead hT
      refine ex_gf oq_X12_hasRead_192 hT (k := 111) (d := 12) rfl rfl ax179 ?_
      refine ex_mul oq_X12_hasRead_195 (m := 9 * x179.toInt) (by rw [hx178]) (by omega) (fun x180 hx180 => ?_)
      refine ex_add oq_X12_hasRead_196 (by omega) (fun x181 hx181 => ?_)
      refine ex_bi oq_X12_hasRead_197 (m := 9) (by decide) (fun x182 hx182 => ?_)
      refine ex_ic oq_X12_hasRead_199 (m := 0) (by decide) (fun x183 hx183 => ?_)
      refine ex_si oq_X12_hasRead_200 (m := 200) (by decide) (fun x184 hx184 => ?_)
      refine ex_cv oq_X12_hasRead_203 (by decide) hT (k := 111) (d := 12) (as := [cv_r 120, cv_i x181, cv_i x182, cv_i x183, cv_i x184]) (stk := []) rfl rfl rfl rfl rfl rfl ⟨rfl, rfl⟩ (R := fun o => ∃ (x : Int32) (hb : cv_H), o = (some (cv_i x), hb) ∧ cw_T G hb ∧ cw_Fr cw_Ds cw_sh kk_X12_numbers_1.2.2.2.2.2.1 h0 hb ∧ zFK h0 hb ∧ zRe t n h0 hb x (zns t n x183.toInt x184.toInt 9 p) (fun vs => (∀ i, i < 9 → ri_at hb 120 (36 + 9 * u + i) = vs.getD i 0) ∧ ∀ i, (i < 36 + 9 * u ∨ 36 + 9 * u + 9 ≤ i) → ri_at hb 120 i = ri_at h0 120 i)) (rt_numbersSK (t := t) (n := n) (p := p) (f := 36 + 9 * u) (m := 9) hT (by omega) hz (fun i hi => by rw [ht i hi, ← hA _ Fh0]) hn9 (fun i hi => by rw [hB _ Fh0]; exact hwr i hi) (by omega) (by omega) (by omega) (by omega) (by omega) (by omega) (fun x hb b1 b2 bk b3 => ⟨x, hb, rfl, b1, b2, bk, b3⟩)) (fun o ho => ?_)
      obtain ⟨x185, h186, rfl, Th186, Ch186, kh186, dx185⟩ := ho
      show cw_X _ _ _ _ _ [cv_i x185] h186
      have Fh186 : cw_Fr cw_Ds cw_sh mk_gt h0 h186 := cw_Fr_tr Fh0 (cw_Fr_mono (by decide +kernel) Ch186)
      have Kh186 := zFK_tr Kh0 kh186
      rw [hx183] at dx185
      rw [hx184] at dx185
      have eh186_111_16 : ri_at h186 111 16 = ri_at h0 111 16 := ri_frf Ch186 (d := 12) rfl rfl (by decide +kernel)
      have eh186_r1 : ri_at h186 119 (b + 1) = hh := (ri_frq Ch186 (k := 119) (d := 58) rfl rfl (by decide) (by decide +kernel)).trans hg1
      have eh186_r14 : ri_at h186 119 (b + 14) = (cm : Int) := (ri_frq Ch186 (k := 119) (d := 58) rfl rfl (by decide) (by decide +kernel)).trans hg14
      have hx01 : 0 ≤ x185.toInt ∧ x185.toInt ≤ 1 := by rcases dx185 with ⟨v, q, e1, e2, e3, _⟩ | ⟨f, a, e1, e2, _⟩ <;> omega
      refine ex_retb oq_X12_hasRead_206 rfl hx01.1 hx01.2 (hQ x185 h186 Th186 Fh186 Kh186 ?_)
      rcases dx185 with ⟨v, q, e1, e2, e3, e4, e5, e6, e7⟩ | ⟨f, a, e1, e2, e3, e4, e5⟩
      · exact .inl ⟨_, _, (by unfold zhs; rw [if_neg (by omega), if_neg (by omega), if_neg (by omega), if_neg (by omega), if_neg (by omega), if_pos (by omega), zb2_r e1]), e2, e3, e4, e5, e6, eh186_r1, hcm, eh186_r14⟩
      · exact .inr ⟨_, _, (by unfold zhs; rw [if_neg (by omega), if_neg (by omega), if_neg (by omega), if_neg (by omega), if_neg (by omega), if_pos (by omega), zb2_l e1]), e2, e3, e4, e5⟩
    | 6, _, c101 =>
      refine ⟨rfl, ?_⟩
      show cw_X _ _ _ 207 _ _ _
      refine ex_al oq_X12_hasRead_207 rfl ?_
      refine ex_il oq_X12_hasRead_208 rfl ?_
      refine ex_cv oq_X12_hasRead_209 (by decide) hT (k := 111) (d := 12) (as := [cv_i g]) (stk := []) rfl rfl rfl rfl rfl rfl ⟨rfl, rfl⟩ (R := fun o => ∃ (x : Int32) (hb : cv_H), o = (some (cv_i x), hb) ∧ cw_T G hb ∧ cw_Fr cw_Ds cw_sh mk_gt h0 hb ∧ zFK h0 hb ∧ zRe t n h0 hb x (zcr t n cn cm p) (fun c' => ri_at hb 119 (b + 1) = hh ∧ c' < 64 ∧ ri_at hb 119 (b + 14) = c')) (rt_causeReadK (t := t) (n := n) (p := p) (b := b) (hh := hh) (cm := cm) (cn := cn) (fun i hi => by rw [ht i hi, ← hA _ Fh0]) hn9 hT (fun i hi => by rw [hB _ Fh0]; exact hwr i hi) (by omega) hz hg hb (by omega) hg1 hh2 hg14 hcc hc6 hcl hcm (fun x hb b1 b2 bk b3 => ⟨x, hb, rfl, b1, b2, bk, b3⟩)) (fun o ho => ?_)
      obtain ⟨x187, h188, rfl, Th188, Ch188, kh188, dx187⟩ := ho
      show cw_X _ _ _ _ _ [cv_i x187] h188
      have Fh188 : cw_Fr cw_Ds cw_sh mk_gt h0 h188 := cw_Fr_tr Fh0 (cw_Fr_mono (by decide +kernel) Ch188)
      have Kh188 := zFK_tr Kh0 kh188
      have eh188_111_16 : ri_at h188 111 16 = ri_at h0 111 16 := ri_frf Ch188 (d := 12) rfl rfl (by decide +kernel)
      have hx01 : 0 ≤ x187.toInt ∧ x187.toInt ≤ 1 := by rcases dx187 with ⟨v, q, e1, e2, e3, _⟩ | ⟨f, a, e1, e2, _⟩ <;> omega
      refine ex_retb oq_X12_hasRead_212 rfl hx01.1 hx01.2 (hQ x187 h188 Th188 Fh188 Kh188 ?_)
      rcases dx187 with ⟨v, q, e1, e2, e3, e4, e5, e6, e7⟩ | ⟨f, a, e1, e2, e3, e4, e5⟩
      · exact .inl ⟨_, _, (by unfold zhs; rw [if_neg (by omega), if_neg (by omega), if_neg (by omega), if_neg (by omega), if_neg (by omega), if_neg (by omega), if_pos (by omega), e1]), e2, e3, e4, e5, e6, e7.1, e7.2.1, e7.2.2⟩
      · exact .inr ⟨_, _, (by unfold zhs; rw [if_neg (by omega), if_neg (by omega), if_neg (by omega), if_neg (by omega), if_neg (by omega), if_neg (by omega), if_pos (by omega), e1]), e2, e3, e4, e5⟩
    | i + 7, hi, _ => exact absurd hi (by show ¬ i + 7 < 7; omega)
set_option maxHeartbeats 8000000 in
theorem gl_lpK {h0 : cv_H} {n : Nat} (ht : ∀ i, i < n → t i = ri_at h0 112 i) (hn9 : n ≤ 900) (hwr : ∀ i, i < 177 → ri_at h0 113 i = pp_words.getD i 0) {b u : Nat} {g : Int32} (hg : g.toInt = b) (hb : b + 16 ≤ 128) (hu : u ≤ 3) (hbu : b = 64 + 16 * u) {hh : Int} (hh2 : 24 ≤ hh ∧ hh ≤ 72) {cn : List Int} (hc6 : cn.length ≤ 6) (hcl : ∀ k, k < cn.length → ri_at h0 123 (6 + k) = cn.getD k 0) {S : (Int × Nat) ⊕ (Int × Nat)} (hQ : ∀ (x : Int32) h', cw_T G h' → cw_Fr cw_Ds cw_sh mk_g2 h0 h' → zFK h0 h' → zRe t n h0 h' x S (fun _ => ri_at h' 111 16 = u + 1) → Q (some (cv_i x), h')) :
    ∀ (f m cm p : Nat) (h : cv_H) (L : cv_L) (K wd : Int32), n - p < f → p ≤ n → zgp t n hh cn f m cm p = S → cw_T G h → cw_Fr cw_Ds cw_sh mk_g2 h0 h → zFK h0 h → zR t n p h → ri_at h 111 4 = ri_at h0 111 4 → ri_at h 111 5 = ri_at h0 111 5 → ri_at h 111 16 = u → ri_at h 111 18 = cn.length → ri_at h 119 (b + 1) = hh → cm < 64 → ri_at h 119 (b + 14) = cm → K.toInt = m → m < 256 → wd.toInt = zhw (zk t n p) (zw t n p) → cv_get L 0 = some (cv_r 111) → cv_get L 1 = some (cv_i g) → cv_get L 2 = some (cv_i K) → cv_get L 3 = some (cv_i wd) → cw_X X 179 Q 297 L [] h := by
  intro f
  induction f with
  | zero => intro m cm p h L K wd hf; omega
  | succ f ih =>
    intro m cm p h L K wd hf hpn hst hT Fh Kh hz hf4 hf5 hgr hcc hg1 hcm hg14 hK hm hW g0 g1 g2 g3
    have zxl := zx_le (t := t) hpn
    have hwb := zhw_b (k := zk t n p) (w := zw t n p)
    obtain ⟨z1, z2, z3, z4, z5⟩ := id hz
    replace z5 := zhd_i z5
    have hA : ∀ h, cw_Fr cw_Ds cw_sh mk_g2 h0 h → ∀ i, ri_at h 112 i = ri_at h0 112 i := fun h F i => ri_frr F (k := 112) (d := 51) rfl rfl (by decide +kernel)
    have hB : ∀ h, cw_Fr cw_Ds cw_sh mk_g2 h0 h → ∀ i, ri_at h 113 i = ri_at h0 113 i := fun h F i => ri_frr F (k := 113) (d := 52) rfl rfl (by decide +kernel)
    refine ex_il oq_X12_gateLine_297 g3 ?_
    refine ex_if0 oq_X12_gateLine_298 (t := 350) rfl rfl (fun (c101 : wd.toInt < 0) => ?_) (fun (c101 : ¬ (wd.toInt < 0)) => ?_)
    · refine ex_al oq_X12_gateLine_350 g0 ?_
      refine ex_dup oq_X12_gateLine_351 rfl ?_
      obtain ⟨x102, ax102, rx102, lx102, ux102⟩ := fi_gatesRead hT
      refine ex_gf oq_X12_gateLine_352 hT (k := 111) (d := 12) rfl rfl ax102 ?_
      have rx102 := (rx102.symm.trans hgr : x102.toInt = (u : Int))
      refine ex_ic oq_X12_gateLine_355 (m := 1) (by decide) (fun x103 hx103 => ?_)
      refine ex_add oq_X12_gateLine_356 (by omega) (fun x104 hx104 => ?_)
      refine ex_pfi oq_X12_gateLine_357 hT (k := 111) (d := 12) rfl rfl rfl (by omega) (by omega) (fun h105 Th105 wh105 => ?_)
      have Fh105 : cw_Fr cw_Ds cw_sh mk_g2 h0 h105 := cw_Fr_tr Fh (cw_Fr_wrf wh105 (k := 111) (d := 12) rfl rfl (by decide +kernel))
      have Kh105 := zFK_wr (k := 111) wh105 (Nat.zero_le _) Kh
      have eh105_111_4 : ri_at h105 111 4 = ri_at h0 111 4 := (ri_ne wh105 (by decide)).trans hf4
      have eh105_111_5 : ri_at h105 111 5 = ri_at h0 111 5 := (ri_ne wh105 (by decide)).trans hf5
      have eh105_111_6 : ri_at h105 111 6 = (n : Int) := (ri_ne wh105 (by decide)).trans z1
      have eh105_111_7 : ri_at h105 111 7 = ((zx t n p : Nat) : Int) := (ri_ne wh105 (by decide)).trans z3
      have eh105_111_8 : ri_at h105 111 8 = zk t n p := (ri_ne wh105 (by decide)).trans z4
      have eh105_111_10 : ri_at h105 111 10 = ((za t n p : Nat) : Int) := (ri_ne wh105 (by decide)).trans z2
      have eh105_111_11 : ri_at h105 111 11 = ri_at h 111 11 := ri_ne wh105 (by decide)
      have eh105_111_16 : ri_at h105 111 16 = x104.toInt := ri_self wh105
      have eh105_111_18 : ri_at h105 111 18 = (cn.length : Int) := (ri_ne wh105 (by decide)).trans hcc
      have eh105_r1 : ri_at h105 119 (b + 1) = hh := (ri_ne wh105 (.inl (by decide))).trans hg1
      have eh105_r14 : ri_at h105 119 (b + 14) = (cm : Int) := (ri_ne wh105 (.inl (by decide))).trans hg14
      have Zh105 := zR_wr wh105 hz (.inr (by decide))
      refine ex_ic oq_X12_gateLine_360 (m := 1) (by decide) (fun x106 hx106 => ?_)
      exact ex_retb oq_X12_gateLine_361 rfl (by omega) (by omega) (hQ x106 h105 Th105 Fh105 Kh105 (.inl ⟨_, _, (by rw [← hst, zgp_s, if_pos (by omega)]), by omega, by omega, Zh105, by omega, by omega, by omega⟩))
    · refine ex_il oq_X12_gateLine_301 g3 ?_
      refine ex_bi oq_X12_gateLine_302 (m := 6) (by decide) (fun x107 hx107 => ?_)
      refine ex_if oq_X12_gateLine_304 (t := 321) rfl rfl (fun (c108 : wd.toInt = x107.toInt) => ?_) (fun (c108 : ¬ (wd.toInt = x107.toInt)) => ?_)
      · refine ex_il oq_X12_gateLine_321 g2 ?_
        refine ex_ic oq_X12_gateLine_322 (m := 1) (by decide) (fun x109 hx109 => ?_)
        refine ex_il oq_X12_gateLine_323 g3 ?_
        refine ex_shlE oq_X12_gateLine_324 (fun x110 hx110 => ?_)
        refine ex_orE oq_X12_gateLine_325 (fun x111 hx111 => ?_)
        have hor : x111.toInt = ((m ||| 2 ^ (zhw (zk t n p) (zw t n p)).toNat : Nat) : Int) := by rw [hx111, hx110]; exact bt_or hK hm (by omega) (by omega) hx109
        refine ex_isA oq_X12_gateLine_326 (fun L112 gL112_2 kL112 => ?_)
        have gL112_0 : cv_get L112 0 = some (cv_r 111) := kL112 0 _ (by decide) (fun q => absurd q (by decide)) g0
        have gL112_1 : cv_get L112 1 = some (cv_i g) := kL112 1 _ (by decide) (fun _ => rfl) g1
        have gL112_3 : cv_get L112 3 = some (cv_i wd) := kL112 3 _ (by decide) (fun q => absurd q (by decide)) g3
        refine ex_al oq_X12_gateLine_327 gL112_0 ?_
        refine ex_cv oq_X12_gateLine_328 (by decide) hT (k := 111) (d := 12) (as := []) (stk := []) rfl rfl rfl rfl rfl rfl ⟨rfl, rfl⟩ (R := fun o => ∃ hb : cv_H, o = (none, hb) ∧ cw_T G hb ∧ cw_Fr cw_Ds cw_sh kk_X12_token.2.2.2.2.2.1 h hb ∧ zR t n (zx t n p) hb) (rt_tok (t := t) (n := n) (p := (zx t n p)) (fun i hi => by rw [ht i hi, ← hA _ Fh]) hn9 (fun i hi => by rw [hB _ Fh]; exact hwr i hi) hT (zx_le (by omega)) (by omega) (by omega) (fun hb b1 b2 b3 => ⟨hb, rfl, b1, b2, b3⟩)) (fun o ho => ?_)
        obtain ⟨h113, rfl, Th113, Ch113, Zh113⟩ := ho
        show cw_X _ _ _ _ _ [] h113
        have Fh113 : cw_Fr cw_Ds cw_sh mk_g2 h0 h113 := cw_Fr_tr Fh (cw_Fr_mono (by decide +kernel) Ch113)
        have Kh113 := zFK_fr Ch113 (by decide +kernel) Kh
        have eh113_111_4 : ri_at h113 111 4 = ri_at h0 111 4 := (ri_frf Ch113 (d := 12) rfl rfl (by decide +kernel)).trans hf4
        have eh113_111_5 : ri_at h113 111 5 = ri_at h0 111 5 := (ri_frf Ch113 (d := 12) rfl rfl (by decide +kernel)).trans hf5
        have eh113_111_11 : ri_at h113 111 11 = ri_at h 111 11 := ri_frf Ch113 (d := 12) rfl rfl (by decide +kernel)
        have eh113_111_16 : ri_at h113 111 16 = (u : Int) := (ri_frf Ch113 (d := 12) rfl rfl (by decide +kernel)).trans hgr
        have eh113_111_18 : ri_at h113 111 18 = (cn.length : Int) := (ri_frf Ch113 (d := 12) rfl rfl (by decide +kernel)).trans hcc
        have eh113_r1 : ri_at h113 119 (b + 1) = hh := (ri_frq Ch113 (k := 119) (d := 58) rfl rfl (by decide) (by decide +kernel)).trans hg1
        have eh113_r14 : ri_at h113 119 (b + 14) = (cm : Int) := (ri_frq Ch113 (k := 119) (d := 58) rfl rfl (by decide) (by decide +kernel)).trans hg14
        obtain ⟨yah113, ybh113, ych113, ydh113, -⟩ := id Zh113
        have zlh113 := zx_le (t := t) (n := n) (p := (zx t n p)) (by omega)
        refine ex_al oq_X12_gateLine_331 gL112_0 ?_
        refine ex_il oq_X12_gateLine_332 gL112_1 ?_
        refine ex_il oq_X12_gateLine_333 gL112_3 ?_
        have hclh113 : ∀ k, k < cn.length → ri_at h113 123 (6 + k) = cn.getD k 0 := fun k hk => by rw [show ri_at h113 123 (6 + k) = ri_at h0 123 (6 + k) from ri_frr Fh113 (k := 123) (d := 62) rfl rfl (by decide +kernel)]; exact hcl k hk
        refine ex_cv oq_X12_gateLine_334 (by decide) Th113 (k := 111) (d := 12) (as := [cv_i g, cv_i wd]) (stk := []) rfl rfl rfl rfl rfl rfl ⟨rfl, rfl⟩ (R := fun o => ∃ (x : Int32) (hb : cv_H), o = (some (cv_i x), hb) ∧ cw_T G hb ∧ cw_Fr cw_Ds cw_sh mk_gt h113 hb ∧ zFK h113 hb ∧ zRe t n h113 hb x (zhs t n hh cn wd.toInt cm (zx t n p)) (fun c' => ri_at hb 119 (b + 1) = hh ∧ c' < 64 ∧ ri_at hb 119 (b + 14) = c')) (rt_hasReadK (t := t) (n := n) (p := (zx t n p)) (b := b) (hh := hh) (cm := cm) (cn := cn) (u := u) (fun i hi => by rw [ht i hi, ← hA _ Fh113]) hn9 Th113 (fun i hi => by rw [hB _ Fh113]; exact hwr i hi) (by omega) Zh113 hg hb (by omega) eh113_r1 hh2 eh113_r14 (by omega) hc6 hclh113 hcm hu hbu (by omega) (by omega) (fun x hb b1 b2 bk b3 => ⟨x, hb, rfl, b1, b2, bk, b3⟩)) (fun o ho => ?_)
        obtain ⟨x114, h115, rfl, Th115, Ch115, kh115, dx114⟩ := ho
        show cw_X _ _ _ _ _ [cv_i x114] h115
        have Fh115 : cw_Fr cw_Ds cw_sh mk_g2 h0 h115 := cw_Fr_tr Fh113 (cw_Fr_mono (by decide +kernel) Ch115)
        have Kh115 := zFK_tr Kh113 kh115
        have eh115_111_16 : ri_at h115 111 16 = (u : Int) := (ri_frf Ch115 (d := 12) rfl rfl (by decide +kernel)).trans eh113_111_16
        clear eh113_111_16
        have eh115_111_18 : ri_at h115 111 18 = (cn.length : Int) := (ri_frf Ch115 (d := 12) rfl rfl (by decide +kernel)).trans eh113_111_18
        clear eh113_111_18
        rw [hW] at dx114
        refine ex_if0 oq_X12_gateLine_337 (t := 342) rfl rfl (fun (c116 : ¬ x114.toInt = 0) => ?_) (fun (c116 : ¬ (¬ x114.toInt = 0)) => ?_)
        · obtain ⟨v1, q1, e1_1, e1_2, ax114, Zh115, e1_5, e1_6, e1_7⟩ := zRe_yes dx114 c116
          clear dx114 c116
          replace e1_5 := e1_5.trans eh113_111_4
          clear eh113_111_4
          replace e1_6 := e1_6.trans eh113_111_5
          clear eh113_111_5
          obtain ⟨yah115, ybh115, ych115, ydh115, -⟩ := id Zh115
          have zlh115 := zx_le (t := t) (n := n) (p := q1) (by omega)
          clear yah113 ybh113 ych113 ydh113
          refine ex_al oq_X12_gateLine_342 gL112_0 ?_
          refine ex_cv oq_X12_gateLine_343 (by decide) Th115 (k := 111) (d := 12) (as := []) (stk := []) rfl rfl rfl rfl rfl rfl ⟨rfl, rfl⟩ (R := fun o => ∃ x : Int32, o = (some (cv_i x), h115) ∧ x.toInt = zhw (zk t n q1) (zw t n q1)) (rt_hasWord (t := t) (n := n) (p := q1) Th115 Zh115 (fun x q => ⟨x, rfl, q⟩)) (fun o ho => ?_)
          obtain ⟨x117, rfl, wx117⟩ := ho
          show cw_X _ _ _ _ _ [cv_i x117] h115
          refine ex_isA oq_X12_gateLine_346 (fun L118 gL118_3 kL118 => ?_)
          have gL118_2 : cv_get L118 2 = some (cv_i x111) := kL118 2 _ (by decide) (fun _ => rfl) gL112_2
          have gL118_0 : cv_get L118 0 = some (cv_r 111) := kL118 0 _ (by decide) (fun q => absurd q (by decide)) gL112_0
          have gL118_1 : cv_get L118 1 = some (cv_i g) := kL118 1 _ (by decide) (fun q => absurd q (by decide)) gL112_1
          refine ex_go oq_X12_gateLine_347 (t := 297) rfl rfl ?_
          have hge := zhs_ge (by omega) e1_1
          have hgt : p < zx t n p := zx_gt hpn (by omega)
          exact ih (m ||| 2 ^ (zhw (zk t n p) (zw t n p)).toNat) v1 q1 h115 L118 x111 x117 (by omega) (by omega) (by rw [← hst, zgp_s, if_neg (by omega), if_neg (by omega), zb2_r e1_1]) Th115 Fh115 Kh115 Zh115 (by omega) (by omega) (by omega) (by omega) e1_7.1 e1_7.2.1 e1_7.2.2 (by rw [hor]) (bt_256 hm (by omega)) wx117 gL118_0 gL118_1 gL118_2 gL118_3
        · replace c116 : x114.toInt = 0 := by omega
          obtain ⟨fc2, fa2, e2_1, ax114, e2_3, e2_4, e2_5⟩ := zRe_no dx114 c116
          clear dx114
          refine ex_ic oq_X12_gateLine_340 (m := 0) (by decide) (fun x119 hx119 => ?_)
          exact ex_retb oq_X12_gateLine_341 rfl (by omega) (by omega) (hQ x119 h115 Th115 Fh115 Kh115 (.inr ⟨_, _, (by rw [← hst, zgp_s, if_neg (by omega), if_neg (by omega), zb2_l e2_1]), by omega, by omega, by omega, by omega⟩))
      · refine ex_il oq_X12_gateLine_307 g2 ?_
        refine ex_il oq_X12_gateLine_308 g3 ?_
        refine ex_cs oq_X12_gateLine_309 (by decide) (as := [cv_i K, cv_i wd]) (stk := []) rfl rfl rfl ⟨rfl, rfl⟩ (R := fun o => ∃ x : Int32, o = (some (cv_i x), h) ∧ (x.toInt = 1 ∧ m.testBit (zhw (zk t n p) (zw t n p)).toNat = true ∨ x.toInt = 0 ∧ ¬ m.testBit (zhw (zk t n p) (zw t n p)).toNat = true)) (rt_isOf (m := m) (j := (zhw (zk t n p) (zw t n p)).toNat) (by omega) hm (by omega) (by omega) (fun x q => ⟨x, rfl, q⟩)) (fun o ho => ?_)
        obtain ⟨x120, rfl, dx120⟩ := ho
        show cw_X _ _ _ _ _ [cv_i x120] h
        refine ex_if0 oq_X12_gateLine_312 (t := 321) rfl rfl (fun (c121 : x120.toInt = 0) => ?_) (fun (c121 : ¬ (x120.toInt = 0)) => ?_)
        · replace dx120 := bit_n dx120 c121
          refine ex_il oq_X12_gateLine_321 g2 ?_
          refine ex_ic oq_X12_gateLine_322 (m := 1) (by decide) (fun x122 hx122 => ?_)
          refine ex_il oq_X12_gateLine_323 g3 ?_
          refine ex_shlE oq_X12_gateLine_324 (fun x123 hx123 => ?_)
          refine ex_orE oq_X12_gateLine_325 (fun x124 hx124 => ?_)
          have hor : x124.toInt = ((m ||| 2 ^ (zhw (zk t n p) (zw t n p)).toNat : Nat) : Int) := by rw [hx124, hx123]; exact bt_or hK hm (by omega) (by omega) hx122
          refine ex_isA oq_X12_gateLine_326 (fun L125 gL125_2 kL125 => ?_)
          have gL125_0 : cv_get L125 0 = some (cv_r 111) := kL125 0 _ (by decide) (fun q => absurd q (by decide)) g0
          have gL125_1 : cv_get L125 1 = some (cv_i g) := kL125 1 _ (by decide) (fun _ => rfl) g1
          have gL125_3 : cv_get L125 3 = some (cv_i wd) := kL125 3 _ (by decide) (fun q => absurd q (by decide)) g3
          refine ex_al oq_X12_gateLine_327 gL125_0 ?_
          refine ex_cv oq_X12_gateLine_328 (by decide) hT (k := 111) (d := 12) (as := []) (stk := []) rfl rfl rfl rfl rfl rfl ⟨rfl, rfl⟩ (R := fun o => ∃ hb : cv_H, o = (none, hb) ∧ cw_T G hb ∧ cw_Fr cw_Ds cw_sh kk_X12_token.2.2.2.2.2.1 h hb ∧ zR t n (zx t n p) hb) (rt_tok (t := t) (n := n) (p := (zx t n p)) (fun i hi => by rw [ht i hi, ← hA _ Fh]) hn9 (fun i hi => by rw [hB _ Fh]; exact hwr i hi) hT (zx_le (by omega)) (by omega) (by omega) (fun hb b1 b2 b3 => ⟨hb, rfl, b1, b2, b3⟩)) (fun o ho => ?_)
          obtain ⟨h126, rfl, Th126, Ch126, Zh126⟩ := ho
          show cw_X _ _ _ _ _ [] h126
          have Fh126 : cw_Fr cw_Ds cw_sh mk_g2 h0 h126 := cw_Fr_tr Fh (cw_Fr_mono (by decide +kernel) Ch126)
          have Kh126 := zFK_fr Ch126 (by decide +kernel) Kh
          have eh126_111_4 : ri_at h126 111 4 = ri_at h0 111 4 := (ri_frf Ch126 (d := 12) rfl rfl (by decide +kernel)).trans hf4
          have eh126_111_5 : ri_at h126 111 5 = ri_at h0 111 5 := (ri_frf Ch126 (d := 12) rfl rfl (by decide +kernel)).trans hf5
          have eh126_111_11 : ri_at h126 111 11 = ri_at h 111 11 := ri_frf Ch126 (d := 12) rfl rfl (by decide +kernel)
          have eh126_111_16 : ri_at h126 111 16 = (u : Int) := (ri_frf Ch126 (d := 12) rfl rfl (by decide +kernel)).trans hgr
          have eh126_111_18 : ri_at h126 111 18 = (cn.length : Int) := (ri_frf Ch126 (d := 12) rfl rfl (by decide +kernel)).trans hcc
          have eh126_r1 : ri_at h126 119 (b + 1) = hh := (ri_frq Ch126 (k := 119) (d := 58) rfl rfl (by decide) (by decide +kernel)).trans hg1
          have eh126_r14 : ri_at h126 119 (b + 14) = (cm : Int) := (ri_frq Ch126 (k := 119) (d := 58) rfl rfl (by decide) (by decide +kernel)).trans hg14
          obtain ⟨yah126, ybh126, ych126, ydh126, -⟩ := id Zh126
          have zlh126 := zx_le (t := t) (n := n) (p := (zx t n p)) (by omega)
          refine ex_al oq_X12_gateLine_331 gL125_0 ?_
          refine ex_il oq_X12_gateLine_332 gL125_1 ?_
          refine ex_il oq_X12_gateLine_333 gL125_3 ?_
          have hclh126 : ∀ k, k < cn.length → ri_at h126 123 (6 + k) = cn.getD k 0 := fun k hk => by rw [show ri_at h126 123 (6 + k) = ri_at h0 123 (6 + k) from ri_frr Fh126 (k := 123) (d := 62) rfl rfl (by decide +kernel)]; exact hcl k hk
          refine ex_cv oq_X12_gateLine_334 (by decide) Th126 (k := 111) (d := 12) (as := [cv_i g, cv_i wd]) (stk := []) rfl rfl rfl rfl rfl rfl ⟨rfl, rfl⟩ (R := fun o => ∃ (x : Int32) (hb : cv_H), o = (some (cv_i x), hb) ∧ cw_T G hb ∧ cw_Fr cw_Ds cw_sh mk_gt h126 hb ∧ zFK h126 hb ∧ zRe t n h126 hb x (zhs t n hh cn wd.toInt cm (zx t n p)) (fun c' => ri_at hb 119 (b + 1) = hh ∧ c' < 64 ∧ ri_at hb 119 (b + 14) = c')) (rt_hasReadK (t := t) (n := n) (p := (zx t n p)) (b := b) (hh := hh) (cm := cm) (cn := cn) (u := u) (fun i hi => by rw [ht i hi, ← hA _ Fh126]) hn9 Th126 (fun i hi => by rw [hB _ Fh126]; exact hwr i hi) (by omega) Zh126 hg hb (by omega) eh126_r1 hh2 eh126_r14 (by omega) hc6 hclh126 hcm hu hbu (by omega) (by omega) (fun x hb b1 b2 bk b3 => ⟨x, hb, rfl, b1, b2, bk, b3⟩)) (fun o ho => ?_)
          obtain ⟨x127, h128, rfl, Th128, Ch128, kh128, dx127⟩ := ho
          show cw_X _ _ _ _ _ [cv_i x127] h128
          have Fh128 : cw_Fr cw_Ds cw_sh mk_g2 h0 h128 := cw_Fr_tr Fh126 (cw_Fr_mono (by decide +kernel) Ch128)
          have Kh128 := zFK_tr Kh126 kh128
          have eh128_111_16 : ri_at h128 111 16 = (u : Int) := (ri_frf Ch128 (d := 12) rfl rfl (by decide +kernel)).trans eh126_111_16
          clear eh126_111_16
          have eh128_111_18 : ri_at h128 111 18 = (cn.length : Int) := (ri_frf Ch128 (d := 12) rfl rfl (by decide +kernel)).trans eh126_111_18
          clear eh126_111_18
          rw [hW] at dx127
          refine ex_if0 oq_X12_gateLine_337 (t := 342) rfl rfl (fun (c129 : ¬ x127.toInt = 0) => ?_) (fun (c129 : ¬ (¬ x127.toInt = 0)) => ?_)
          · obtain ⟨v3, q3, e3_1, e3_2, ax127, Zh128, e3_5, e3_6, e3_7⟩ := zRe_yes dx127 c129
            clear dx127 c129
            replace e3_5 := e3_5.trans eh126_111_4
            clear eh126_111_4
            replace e3_6 := e3_6.trans eh126_111_5
            clear eh126_111_5
            obtain ⟨yah128, ybh128, ych128, ydh128, -⟩ := id Zh128
            have zlh128 := zx_le (t := t) (n := n) (p := q3) (by omega)
            clear yah126 ybh126 ych126 ydh126
            refine ex_al oq_X12_gateLine_342 gL125_0 ?_
            refine ex_cv oq_X12_gateLine_343 (by decide) Th128 (k := 111) (d := 12) (as := []) (stk := []) rfl rfl rfl rfl rfl rfl ⟨rfl, rfl⟩ (R := fun o => ∃ x : Int32, o = (some (cv_i x), h128) ∧ x.toInt = zhw (zk t n q3) (zw t n q3)) (rt_hasWord (t := t) (n := n) (p := q3) Th128 Zh128 (fun x q => ⟨x, rfl, q⟩)) (fun o ho => ?_)
            obtain ⟨x130, rfl, wx130⟩ := ho
            show cw_X _ _ _ _ _ [cv_i x130] h128
            refine ex_isA oq_X12_gateLine_346 (fun L131 gL131_3 kL131 => ?_)
            have gL131_2 : cv_get L131 2 = some (cv_i x124) := kL131 2 _ (by decide) (fun _ => rfl) gL125_2
            have gL131_0 : cv_get L131 0 = some (cv_r 111) := kL131 0 _ (by decide) (fun q => absurd q (by decide)) gL125_0
            have gL131_1 : cv_get L131 1 = some (cv_i g) := kL131 1 _ (by decide) (fun q => absurd q (by decide)) gL125_1
            refine ex_go oq_X12_gateLine_347 (t := 297) rfl rfl ?_
            have hge := zhs_ge (by omega) e3_1
            have hgt : p < zx t n p := zx_gt hpn (by omega)
            exact ih (m ||| 2 ^ (zhw (zk t n p) (zw t n p)).toNat) v3 q3 h128 L131 x124 x130 (by omega) (by omega) (by rw [← hst, zgp_s, if_neg (by omega), if_neg (fun q => dx120 q.2), zb2_r e3_1]) Th128 Fh128 Kh128 Zh128 (by omega) (by omega) (by omega) (by omega) e3_7.1 e3_7.2.1 e3_7.2.2 (by rw [hor]) (bt_256 hm (by omega)) wx130 gL131_0 gL131_1 gL131_2 gL131_3
          · replace c129 : x127.toInt = 0 := by omega
            obtain ⟨fc4, fa4, e4_1, ax127, e4_3, e4_4, e4_5⟩ := zRe_no dx127 c129
            clear dx127
            refine ex_ic oq_X12_gateLine_340 (m := 0) (by decide) (fun x132 hx132 => ?_)
            exact ex_retb oq_X12_gateLine_341 rfl (by omega) (by omega) (hQ x132 h128 Th128 Fh128 Kh128 (.inr ⟨_, _, (by rw [← hst, zgp_s, if_neg (by omega), if_neg (fun q => dx120 q.2), zb2_l e4_1]), by omega, by omega, by omega, by omega⟩))
        · replace c121 : ¬ x120.toInt = 0 := by omega
          replace dx120 := bit_y dx120 c121
          refine ex_al oq_X12_gateLine_315 g0 ?_
          refine ex_ic oq_X12_gateLine_316 (m := 3) (by decide) (fun x133 hx133 => ?_)
          refine ex_cv oq_X12_gateLine_317 (by decide) hT (k := 111) (d := 12) (as := [cv_i x133]) (stk := []) rfl rfl rfl rfl rfl rfl ⟨rfl, rfl⟩ (R := fun o => ∃ (x : Int32) (hb : cv_H), o = (some (cv_i x), hb) ∧ cw_T G hb ∧ cw_Fr cw_Ds cw_sh kk_X12_wrong.2.2.2.2.2.1 h hb ∧ x.toInt = 0 ∧ ri_at hb 111 4 = x133.toInt ∧ ri_at hb 111 5 = ri_at h 111 10) (rt_wrong hT x133 (fun x hb b1 b2 b3 b4 b5 => ⟨x, hb, rfl, b1, b2, b3, b4, b5⟩)) (fun o ho => ?_)
          obtain ⟨x134, h135, rfl, Th135, Ch135, zh135, fh135, ph135⟩ := ho
          show cw_X _ _ _ _ _ [cv_i x134] h135
          have Fh135 : cw_Fr cw_Ds cw_sh mk_g2 h0 h135 := cw_Fr_tr Fh (cw_Fr_mono (by decide +kernel) Ch135)
          have Kh135 := zFK_fr Ch135 (by decide +kernel) Kh
          exact ex_retb oq_X12_gateLine_320 rfl (by omega) (by omega) (hQ x134 h135 Th135 Fh135 Kh135 (.inr ⟨_, _, (by rw [← hst, zgp_s, if_neg (by omega), if_pos ⟨by omega, dx120⟩]), by omega, by omega, by omega, by decide⟩))
theorem gl_rsK {h0 : cv_H} {u : Nat} (hu : u ≤ 3) {g : Int32} (hQ : ∀ h' L, cw_T G h' → cw_Fr cw_Ds cw_sh mk_rs h0 h' → zFK h0 h' → cv_get L 0 = some (cv_r 111) → cv_get L 1 = some (cv_i g) → cw_X X 179 Q 290 L [] h') :
    ∀ (f k : Nat) (h : cv_H) (L : cv_L) (K : Int32), 9 - k = f → k ≤ 9 → K.toInt = k → cw_T G h → cw_Fr cw_Ds cw_sh mk_rs h0 h → zFK h0 h → ri_at h 111 16 = u → cv_get L 0 = some (cv_r 111) → cv_get L 1 = some (cv_i g) → cv_get L 2 = some (cv_i K) → cw_X X 179 Q 260 L [] h := by
  intro f
  induction f with
  | zero =>
    intro k h L K hf hk hK hT Fh Kh hgr g0 g1 g2
    refine ex_il oq_X12_gateLine_260 g2 ?_
    refine ex_bi oq_X12_gateLine_261 (m := 9) (by decide) (fun x101 hx101 => ?_)
    refine ex_if oq_X12_gateLine_263 (t := 290) rfl rfl (fun (c102 : x101.toInt ≤ K.toInt) => ?_) (fun (c102 : ¬ (x101.toInt ≤ K.toInt)) => ?_)
    · exact hQ h L hT Fh Kh g0 g1
    · exfalso; omega
  | succ f ih =>
    intro k h L K hf hk hK hT Fh Kh hgr g0 g1 g2
    refine ex_il oq_X12_gateLine_260 g2 ?_
    refine ex_bi oq_X12_gateLine_261 (m := 9) (by decide) (fun x101 hx101 => ?_)
    refine ex_if oq_X12_gateLine_263 (t := 290) rfl rfl (fun (c102 : x101.toInt ≤ K.toInt) => ?_) (fun (c102 : ¬ (x101.toInt ≤ K.toInt)) => ?_)
    · exfalso; omega
    · refine ex_al oq_X12_gateLine_266 g0 ?_
      refine ex_gf oq_X12_gateLine_267 hT (k := 111) (d := 12) rfl rfl (fr_rise hT) ?_
      refine ex_bi oq_X12_gateLine_270 (m := 36) (by decide) (fun x103 hx103 => ?_)
      refine ex_bi oq_X12_gateLine_272 (m := 9) (by decide) (fun x104 hx104 => ?_)
      refine ex_al oq_X12_gateLine_274 g0 ?_
      obtain ⟨x105, ax105, rx105, lx105, ux105⟩ := fi_gatesRead hT
      refine ex_gf oq_X12_gateLine_275 hT (k := 111) (d := 12) rfl rfl ax105 ?_
      have rx105 := (rx105.symm.trans hgr : x105.toInt = (u : Int))
      refine ex_mul oq_X12_gateLine_278 (m := 9 * x105.toInt) (by rw [hx104]) (by omega) (fun x106 hx106 => ?_)
      refine ex_add oq_X12_gateLine_279 (by omega) (fun x107 hx107 => ?_)
      refine ex_il oq_X12_gateLine_280 g2 ?_
      refine ex_add oq_X12_gateLine_281 (by omega) (fun x108 hx108 => ?_)
      refine ex_ic oq_X12_gateLine_282 (m := 0) (by decide) (fun x109 hx109 => ?_)
      refine ex_iw1 oq_X12_gateLine_283 hT (k := 120) (d := 59) (j := 36 + 9 * u + k) rfl rfl (by omega) (by omega) ⟨(cw_i32 _).1, (cw_i32 _).2⟩ (fun h110 Th110 wh110 => ?_)
      have Fh110 : cw_Fr cw_Ds cw_sh mk_rs h0 h110 := cw_Fr_tr Fh (cw_Fr_wrr wh110 (k := 120) (d := 59) rfl rfl (by decide +kernel))
      have Kh110 := zFK_wr (k := 120) wh110 ((by show 36 ≤ _; omega)) Kh
      have eh110_111_16 : ri_at h110 111 16 = (u : Int) := (ri_ne wh110 (.inl (by decide))).trans hgr
      refine ex_incA oq_X12_gateLine_284 (v := K) (m := 1) g2 (by decide) (by omega) (fun L112 x111 hx111 gL112_2 kL112 => ?_)
      have gL112_0 : cv_get L112 0 = some (cv_r 111) := kL112 0 _ (by decide) (fun q => absurd q (by decide)) g0
      have gL112_1 : cv_get L112 1 = some (cv_i g) := kL112 1 _ (by decide) (fun _ => rfl) g1
      refine ex_go oq_X12_gateLine_287 (t := 260) rfl rfl ?_
      exact ih (k + 1) h110 L112 x111 (by omega) (by omega) (by omega) Th110 Fh110 Kh110 (by omega) gL112_0 gL112_1 gL112_2
set_option maxHeartbeats 8000000 in
theorem rt_gateLineK {h0 : cv_H} {n p : Nat} (ht : ∀ i, i < n → t i = ri_at h0 112 i) (hn9 : n ≤ 900) (hT : cw_T G h0) (hwr : ∀ i, i < 177 → ri_at h0 113 i = pp_words.getD i 0) (hpn : p ≤ n) (hz : zR t n p h0) {l cn : List Int} (hc : ri_at h0 111 16 = l.length) (hlm : l.length ≤ 4) (hl : ∀ k, k < l.length → ri_at h0 118 (4 + k) = l.getD k 0) (hcc : ri_at h0 111 18 = cn.length) (hc6 : cn.length ≤ 6) (hcl : ∀ k, k < cn.length → ri_at h0 123 (6 + k) = cn.getD k 0) (hQ : ∀ (x : Int32) h', cw_T G h' → cw_Fr cw_Ds cw_sh mk_gz h0 h' → zFK h0 h' → zRe t n h0 h' x (zgt t n l cn p) (fun v => (∀ k, k < l.length → ri_at h' 118 (4 + k) = l.getD k 0) ∧ ri_at h' 118 (4 + l.length) = v ∧ ri_at h' 111 16 = l.length + 1) → Q (some (cv_i x), h')) : cw_X X 179 Q 0 (cv_ent 0 [cv_r 111]) [] h0 := by
  have Fh0 : cw_Fr cw_Ds cw_sh mk_gz h0 h0 := cw_Fr_refl
  have Kh0 : zFK h0 h0 := zFK_0
  have zxl := zx_le (t := t) hpn
  obtain ⟨z1, z2, z3, z4, z5⟩ := id hz
  replace z5 := zhd_i z5
  have hA : ∀ h, cw_Fr cw_Ds cw_sh mk_gz h0 h → ∀ i, ri_at h 112 i = ri_at h0 112 i := fun h F i => ri_frr F (k := 112) (d := 51) rfl rfl (by decide +kernel)
  have hB : ∀ h, cw_Fr cw_Ds cw_sh mk_gz h0 h → ∀ i, ri_at h 113 i = ri_at h0 113 i := fun h F i => ri_frr F (k := 113) (d := 52) rfl rfl (by decide +kernel)
  obtain ⟨b, hb⟩ : ∃ b, b = 64 + 16 * l.length := ⟨_, rfl⟩
  refine ex_al oq_X12_gateLine_0 rfl ?_
  obtain ⟨x101, ax101, rx101, lx101, ux101⟩ := fi_gatesRead hT
  refine ex_gf oq_X12_gateLine_1 hT (k := 111) (d := 12) rfl rfl ax101 ?_
  have rx101 := (rx101.symm.trans hc : x101.toInt = (l.length : Int))
  refine ex_ic oq_X12_gateLine_4 (m := 4) (by decide) (fun x102 hx102 => ?_)
  refine ex_if oq_X12_gateLine_5 (t := 14) rfl rfl (fun (c103 : ¬ x101.toInt = x102.toInt) => ?_) (fun (c103 : ¬ (¬ x101.toInt = x102.toInt)) => ?_)
  · refine ex_al oq_X12_gateLine_14 rfl ?_
    refine ex_cv oq_X12_gateLine_15 (by decide) hT (k := 111) (d := 12) (as := []) (stk := []) rfl rfl rfl rfl rfl rfl ⟨rfl, rfl⟩ (R := fun o => ∃ hb : cv_H, o = (none, hb) ∧ cw_T G hb ∧ cw_Fr cw_Ds cw_sh kk_X12_token.2.2.2.2.2.1 h0 hb ∧ zR t n (zx t n p) hb) (rt_tok (t := t) (n := n) (p := (zx t n p)) (fun i hi => by rw [ht i hi, ← hA _ Fh0]) hn9 (fun i hi => by rw [hB _ Fh0]; exact hwr i hi) hT (zx_le (by omega)) (by omega) (by omega) (fun hb b1 b2 b3 => ⟨hb, rfl, b1, b2, b3⟩)) (fun o ho => ?_)
    obtain ⟨h104, rfl, Th104, Ch104, Zh104⟩ := ho
    show cw_X _ _ _ _ _ [] h104
    have Fh104 : cw_Fr cw_Ds cw_sh mk_gz h0 h104 := cw_Fr_tr Fh0 (cw_Fr_mono (by decide +kernel) Ch104)
    have Kh104 := zFK_fr Ch104 (by decide +kernel) Kh0
    have eh104_111_4 : ri_at h104 111 4 = ri_at h0 111 4 := ri_frf Ch104 (d := 12) rfl rfl (by decide +kernel)
    have eh104_111_5 : ri_at h104 111 5 = ri_at h0 111 5 := ri_frf Ch104 (d := 12) rfl rfl (by decide +kernel)
    have eh104_111_11 : ri_at h104 111 11 = ri_at h0 111 11 := ri_frf Ch104 (d := 12) rfl rfl (by decide +kernel)
    have eh104_111_16 : ri_at h104 111 16 = (l.length : Int) := (ri_frf Ch104 (d := 12) rfl rfl (by decide +kernel)).trans hc
    have eh104_111_18 : ri_at h104 111 18 = (cn.length : Int) := (ri_frf Ch104 (d := 12) rfl rfl (by decide +kernel)).trans hcc
    have eh104_r1 : ri_at h104 119 (b + 1) = ri_at h0 119 (b + 1) := ri_frq Ch104 (k := 119) (d := 58) rfl rfl (by decide) (by decide +kernel)
    have eh104_r14 : ri_at h104 119 (b + 14) = ri_at h0 119 (b + 14) := ri_frq Ch104 (k := 119) (d := 58) rfl rfl (by decide) (by decide +kernel)
    obtain ⟨yah104, ybh104, ych104, ydh104, -⟩ := id Zh104
    have zlh104 := zx_le (t := t) (n := n) (p := (zx t n p)) (by omega)
    refine ex_al oq_X12_gateLine_18 rfl ?_
    refine ex_al oq_X12_gateLine_19 rfl ?_
    refine ex_gf oq_X12_gateLine_20 Th104 (k := 111) (d := 12) rfl rfl (fr_gateName Th104) ?_
    refine ex_ic oq_X12_gateLine_23 (m := 4) (by decide) (fun x105 hx105 => ?_)
    refine ex_al oq_X12_gateLine_24 rfl ?_
    obtain ⟨x106, ax106, rx106, lx106, ux106⟩ := fi_gatesRead Th104
    refine ex_gf oq_X12_gateLine_25 Th104 (k := 111) (d := 12) rfl rfl ax106 ?_
    have rx106 := (rx106.symm.trans eh104_111_16 : x106.toInt = (l.length : Int))
    have hlh104 : ∀ k, k < l.length → ri_at h104 118 (4 + k) = l.getD k 0 := fun k hk => by rw [show ri_at h104 118 (4 + k) = ri_at h0 118 (4 + k) from (ri_frr Ch104 (k := 118) (d := 57) rfl rfl (by decide +kernel))]; exact hl k hk
    refine ex_cv oq_X12_gateLine_28 (by decide) Th104 (k := 111) (d := 12) (as := [cv_r 118, cv_i x105, cv_i x106]) (stk := []) rfl rfl rfl rfl rfl rfl ⟨rfl, rfl⟩ (R := fun o => ∃ (x : Int32) (hb : cv_H), o = (some (cv_i x), hb) ∧ cw_T G hb ∧ cw_Fr cw_Ds cw_sh kk_X12_newName.2.2.2.2.2.1 h104 hb ∧ zFK h104 hb ∧ zRe t n h104 hb x (zm t n l (zx t n p)) (fun v => (∀ k, k < l.length → ri_at hb 118 (4 + k) = l.getD k 0) ∧ ri_at hb 118 (4 + l.length) = v)) (rt_newNameGK (t := t) (n := n) (p := (zx t n p)) (l := l) (fun i hi => by rw [ht i hi, ← hA _ Fh104]) hn9 Th104 (fun i hi => by rw [hB _ Fh104]; exact hwr i hi) (by omega) Zh104 (by omega) (by omega) (by omega) hlh104 (fun x hb b1 b2 bk b3 => ⟨x, hb, rfl, b1, b2, bk, b3⟩)) (fun o ho => ?_)
    obtain ⟨x107, h108, rfl, Th108, Ch108, kh108, dx107⟩ := ho
    show cw_X _ _ _ _ _ [cv_i x107] h108
    have Fh108 : cw_Fr cw_Ds cw_sh mk_gz h0 h108 := cw_Fr_tr Fh104 (cw_Fr_mono (by decide +kernel) Ch108)
    have Kh108 := zFK_tr Kh104 kh108
    have eh108_111_16 : ri_at h108 111 16 = (l.length : Int) := (ri_frf Ch108 (d := 12) rfl rfl (by decide +kernel)).trans eh104_111_16
    clear eh104_111_16
    have eh108_111_18 : ri_at h108 111 18 = (cn.length : Int) := (ri_frf Ch108 (d := 12) rfl rfl (by decide +kernel)).trans eh104_111_18
    clear eh104_111_18
    have eh108_r1 : ri_at h108 119 (b + 1) = ri_at h0 119 (b + 1) := (ri_frq Ch108 (k := 119) (d := 58) rfl rfl (by decide) (by decide +kernel)).trans eh104_r1
    clear eh104_r1
    have eh108_r14 : ri_at h108 119 (b + 14) = ri_at h0 119 (b + 14) := (ri_frq Ch108 (k := 119) (d := 58) rfl rfl (by decide) (by decide +kernel)).trans eh104_r14
    clear eh104_r14
    refine ex_if0 oq_X12_gateLine_31 (t := 36) rfl rfl (fun (c109 : ¬ x107.toInt = 0) => ?_) (fun (c109 : ¬ (¬ x107.toInt = 0)) => ?_)
    · obtain ⟨v1, q1, e1_1, e1_2, ax107, Zh108, e1_5, e1_6, e1_7⟩ := zRe_yes dx107 c109
      clear dx107 c109
      replace e1_5 := e1_5.trans eh104_111_4
      clear eh104_111_4
      replace e1_6 := e1_6.trans eh104_111_5
      clear eh104_111_5
      obtain ⟨yah108, ybh108, ych108, ydh108, -⟩ := id Zh108
      have zlh108 := zx_le (t := t) (n := n) (p := q1) (by omega)
      clear yah104 ybh104 ych104 ydh104
      refine ex_bi oq_X12_gateLine_36 (m := 64) (by decide) (fun x110 hx110 => ?_)
      refine ex_bi oq_X12_gateLine_38 (m := 16) (by decide) (fun x111 hx111 => ?_)
      refine ex_al oq_X12_gateLine_40 rfl ?_
      obtain ⟨x112, ax112, rx112, lx112, ux112⟩ := fi_gatesRead Th108
      refine ex_gf oq_X12_gateLine_41 Th108 (k := 111) (d := 12) rfl rfl ax112 ?_
      have rx112 := (rx112.symm.trans eh108_111_16 : x112.toInt = (l.length : Int))
      refine ex_mul oq_X12_gateLine_44 (m := 16 * x112.toInt) (by rw [hx111]) (by omega) (fun x113 hx113 => ?_)
      refine ex_add oq_X12_gateLine_45 (by omega) (fun x114 hx114 => ?_)
      refine ex_isA oq_X12_gateLine_46 (fun L115 gL115_1 kL115 => ?_)
      have gL115_0 : cv_get L115 0 = some (cv_r 111) := kL115 0 _ (by decide) (fun _ => rfl) rfl
      refine ex_al oq_X12_gateLine_47 gL115_0 ?_
      refine ex_bi oq_X12_gateLine_48 (m := 24) (by decide) (fun x116 hx116 => ?_)
      refine ex_si oq_X12_gateLine_50 (m := 144) (by decide) (fun x117 hx117 => ?_)
      refine ex_cv oq_X12_gateLine_53 (by decide) Th108 (k := 111) (d := 12) (as := [cv_i x116, cv_i x117]) (stk := []) rfl rfl rfl rfl rfl rfl ⟨rfl, rfl⟩ (R := fun o => ∃ (x : Int32) (hb : cv_H), o = (some (cv_i x), hb) ∧ cw_T G hb ∧ cw_Fr cw_Ds cw_sh kk_X12_number.2.2.2.2.2.1 h108 hb ∧ zRe t n h108 hb x (zn t n x116.toInt x117.toInt q1) (fun v => ri_at hb 111 11 = v)) (rt_number (t := t) (n := n) (p := q1) (fun i hi => by rw [ht i hi, ← hA _ Fh108]) hn9 Th108 (fun i hi => by rw [hB _ Fh108]; exact hwr i hi) (by omega) Zh108 x116 x117 (fun x hb b1 b2 b3 => ⟨x, hb, rfl, b1, b2, b3⟩)) (fun o ho => ?_)
      obtain ⟨x118, h119, rfl, Th119, Ch119, dx118⟩ := ho
      show cw_X _ _ _ _ _ [cv_i x118] h119
      have Fh119 : cw_Fr cw_Ds cw_sh mk_gz h0 h119 := cw_Fr_tr Fh108 (cw_Fr_mono (by decide +kernel) Ch119)
      have Kh119 := zFK_fr Ch119 (by decide +kernel) Kh108
      rw [hx116] at dx118
      rw [hx117] at dx118
      have eh119_111_16 : ri_at h119 111 16 = (l.length : Int) := (ri_frf Ch119 (d := 12) rfl rfl (by decide +kernel)).trans eh108_111_16
      clear eh108_111_16
      have eh119_111_18 : ri_at h119 111 18 = (cn.length : Int) := (ri_frf Ch119 (d := 12) rfl rfl (by decide +kernel)).trans eh108_111_18
      clear eh108_111_18
      have eh119_r1 : ri_at h119 119 (b + 1) = ri_at h0 119 (b + 1) := (ri_frq Ch119 (k := 119) (d := 58) rfl rfl (by decide) (by decide +kernel)).trans eh108_r1
      clear eh108_r1
      have eh119_r14 : ri_at h119 119 (b + 14) = ri_at h0 119 (b + 14) := (ri_frq Ch119 (k := 119) (d := 58) rfl rfl (by decide) (by decide +kernel)).trans eh108_r14
      clear eh108_r14
      refine ex_if0 oq_X12_gateLine_56 (t := 61) rfl rfl (fun (c120 : ¬ x118.toInt = 0) => ?_) (fun (c120 : ¬ (¬ x118.toInt = 0)) => ?_)
      · obtain ⟨v2, q2, e2_1, e2_2, ax118, Zh119, e2_5, e2_6, e2_7⟩ := zRe_yes dx118 c120
        clear dx118 c120
        replace e2_5 := e2_5.trans e1_5
        clear e1_5
        replace e2_6 := e2_6.trans e1_6
        clear e1_6
        obtain ⟨yah119, ybh119, ych119, ydh119, -⟩ := id Zh119
        have zlh119 := zx_le (t := t) (n := n) (p := q2) (by omega)
        clear yah108 ybh108 ych108 ydh108
        have e2_8 := zn_rg e2_1
        refine ex_al oq_X12_gateLine_61 gL115_0 ?_
        refine ex_gf oq_X12_gateLine_62 Th119 (k := 111) (d := 12) rfl rfl (fr_gateHas Th119) ?_
        refine ex_il oq_X12_gateLine_65 gL115_1 ?_
        refine ex_al oq_X12_gateLine_66 gL115_0 ?_
        obtain ⟨x121, ax121, rx121, lx121, ux121⟩ := fi_got Th119
        refine ex_gf oq_X12_gateLine_67 Th119 (k := 111) (d := 12) rfl rfl ax121 ?_
        have rx121 := (rx121.symm.trans e2_7 : x121.toInt = v2)
        refine ex_iw oq_X12_gateLine_70 Th119 (k := 119) (d := 58) (j := b) rfl rfl (by omega) (by omega) (fun r hr => gh_get hr _ (cw_i32 _)) (fun h122 Th122 wh122 => ?_)
        have Fh122 : cw_Fr cw_Ds cw_sh mk_gz h0 h122 := cw_Fr_tr Fh119 (cw_Fr_wrr wh122 (k := 119) (d := 58) rfl rfl (by decide +kernel))
        have Kh122 := zFK_wr (k := 119) wh122 ((by show 64 ≤ _; omega)) Kh119
        have eh122_111_4 : ri_at h122 111 4 = ri_at h0 111 4 := (ri_ne wh122 (.inl (by decide))).trans e2_5
        have eh122_111_5 : ri_at h122 111 5 = ri_at h0 111 5 := (ri_ne wh122 (.inl (by decide))).trans e2_6
        have eh122_111_6 : ri_at h122 111 6 = (n : Int) := (ri_ne wh122 (.inl (by decide))).trans yah119
        have eh122_111_7 : ri_at h122 111 7 = ((zx t n q2 : Nat) : Int) := (ri_ne wh122 (.inl (by decide))).trans ych119
        have eh122_111_8 : ri_at h122 111 8 = zk t n q2 := (ri_ne wh122 (.inl (by decide))).trans ydh119
        have eh122_111_10 : ri_at h122 111 10 = ((za t n q2 : Nat) : Int) := (ri_ne wh122 (.inl (by decide))).trans ybh119
        have eh122_111_11 : ri_at h122 111 11 = v2 := (ri_ne wh122 (.inl (by decide))).trans e2_7
        have eh122_111_16 : ri_at h122 111 16 = (l.length : Int) := (ri_ne wh122 (.inl (by decide))).trans eh119_111_16
        clear eh119_111_16
        have eh122_111_18 : ri_at h122 111 18 = (cn.length : Int) := (ri_ne wh122 (.inl (by decide))).trans eh119_111_18
        clear eh119_111_18
        have eh122_r1 : ri_at h122 119 (b + 1) = ri_at h0 119 (b + 1) := (ri_ne wh122 (.inr (by omega))).trans eh119_r1
        clear eh119_r1
        have eh122_r14 : ri_at h122 119 (b + 14) = ri_at h0 119 (b + 14) := (ri_ne wh122 (.inr (by omega))).trans eh119_r14
        clear eh119_r14
        have Zh122 := zR_wr wh122 Zh119 (.inl (by decide))
        refine ex_al oq_X12_gateLine_71 gL115_0 ?_
        refine ex_bi oq_X12_gateLine_72 (m := 24) (by decide) (fun x123 hx123 => ?_)
        refine ex_bi oq_X12_gateLine_74 (m := 72) (by decide) (fun x124 hx124 => ?_)
        refine ex_cv oq_X12_gateLine_76 (by decide) Th122 (k := 111) (d := 12) (as := [cv_i x123, cv_i x124]) (stk := []) rfl rfl rfl rfl rfl rfl ⟨rfl, rfl⟩ (R := fun o => ∃ (x : Int32) (hb : cv_H), o = (some (cv_i x), hb) ∧ cw_T G hb ∧ cw_Fr cw_Ds cw_sh kk_X12_number.2.2.2.2.2.1 h122 hb ∧ zRe t n h122 hb x (zn t n x123.toInt x124.toInt q2) (fun v => ri_at hb 111 11 = v)) (rt_number (t := t) (n := n) (p := q2) (fun i hi => by rw [ht i hi, ← hA _ Fh122]) hn9 Th122 (fun i hi => by rw [hB _ Fh122]; exact hwr i hi) (by omega) Zh122 x123 x124 (fun x hb b1 b2 b3 => ⟨x, hb, rfl, b1, b2, b3⟩)) (fun o ho => ?_)
        obtain ⟨x125, h126, rfl, Th126, Ch126, dx125⟩ := ho
        show cw_X _ _ _ _ _ [cv_i x125] h126
        have Fh126 : cw_Fr cw_Ds cw_sh mk_gz h0 h126 := cw_Fr_tr Fh122 (cw_Fr_mono (by decide +kernel) Ch126)
        have Kh126 := zFK_fr Ch126 (by decide +kernel) Kh122
        rw [hx123] at dx125
        rw [hx124] at dx125
        have eh126_111_16 : ri_at h126 111 16 = (l.length : Int) := (ri_frf Ch126 (d := 12) rfl rfl (by decide +kernel)).trans eh122_111_16
        clear eh122_111_16
        have eh126_111_18 : ri_at h126 111 18 = (cn.length : Int) := (ri_frf Ch126 (d := 12) rfl rfl (by decide +kernel)).trans eh122_111_18
        clear eh122_111_18
        have eh126_r1 : ri_at h126 119 (b + 1) = ri_at h0 119 (b + 1) := (ri_frq Ch126 (k := 119) (d := 58) rfl rfl (by decide) (by decide +kernel)).trans eh122_r1
        clear eh122_r1
        have eh126_r14 : ri_at h126 119 (b + 14) = ri_at h0 119 (b + 14) := (ri_frq Ch126 (k := 119) (d := 58) rfl rfl (by decide) (by decide +kernel)).trans eh122_r14
        clear eh122_r14
        refine ex_if0 oq_X12_gateLine_79 (t := 84) rfl rfl (fun (c127 : ¬ x125.toInt = 0) => ?_) (fun (c127 : ¬ (¬ x125.toInt = 0)) => ?_)
        · obtain ⟨v3, q3, e3_1, e3_2, ax125, Zh126, e3_5, e3_6, e3_7⟩ := zRe_yes dx125 c127
          clear dx125 c127
          replace e3_5 := e3_5.trans eh122_111_4
          clear eh122_111_4
          replace e3_6 := e3_6.trans eh122_111_5
          clear eh122_111_5
          obtain ⟨yah126, ybh126, ych126, ydh126, -⟩ := id Zh126
          have zlh126 := zx_le (t := t) (n := n) (p := q3) (by omega)
          clear eh122_111_6 eh122_111_10 eh122_111_7 eh122_111_8
          have e3_8 := zn_rg e3_1
          refine ex_al oq_X12_gateLine_84 gL115_0 ?_
          refine ex_gf oq_X12_gateLine_85 Th126 (k := 111) (d := 12) rfl rfl (fr_gateHas Th126) ?_
          refine ex_il oq_X12_gateLine_88 gL115_1 ?_
          refine ex_ic oq_X12_gateLine_89 (m := 1) (by decide) (fun x128 hx128 => ?_)
          refine ex_add oq_X12_gateLine_90 (by omega) (fun x129 hx129 => ?_)
          refine ex_al oq_X12_gateLine_91 gL115_0 ?_
          obtain ⟨x130, ax130, rx130, lx130, ux130⟩ := fi_got Th126
          refine ex_gf oq_X12_gateLine_92 Th126 (k := 111) (d := 12) rfl rfl ax130 ?_
          have rx130 := (rx130.symm.trans e3_7 : x130.toInt = v3)
          refine ex_iw oq_X12_gateLine_95 Th126 (k := 119) (d := 58) (j := b + 1) rfl rfl (by omega) (by omega) (fun r hr => gh_get hr _ (cw_i32 _)) (fun h131 Th131 wh131 => ?_)
          have Fh131 : cw_Fr cw_Ds cw_sh mk_gz h0 h131 := cw_Fr_tr Fh126 (cw_Fr_wrr wh131 (k := 119) (d := 58) rfl rfl (by decide +kernel))
          have Kh131 := zFK_wr (k := 119) wh131 ((by show 64 ≤ _; omega)) Kh126
          have eh131_111_4 : ri_at h131 111 4 = ri_at h0 111 4 := (ri_ne wh131 (.inl (by decide))).trans e3_5
          have eh131_111_5 : ri_at h131 111 5 = ri_at h0 111 5 := (ri_ne wh131 (.inl (by decide))).trans e3_6
          have eh131_111_6 : ri_at h131 111 6 = (n : Int) := (ri_ne wh131 (.inl (by decide))).trans yah126
          have eh131_111_7 : ri_at h131 111 7 = ((zx t n q3 : Nat) : Int) := (ri_ne wh131 (.inl (by decide))).trans ych126
          have eh131_111_8 : ri_at h131 111 8 = zk t n q3 := (ri_ne wh131 (.inl (by decide))).trans ydh126
          have eh131_111_10 : ri_at h131 111 10 = ((za t n q3 : Nat) : Int) := (ri_ne wh131 (.inl (by decide))).trans ybh126
          have eh131_111_11 : ri_at h131 111 11 = v3 := (ri_ne wh131 (.inl (by decide))).trans e3_7
          have eh131_111_16 : ri_at h131 111 16 = (l.length : Int) := (ri_ne wh131 (.inl (by decide))).trans eh126_111_16
          clear eh126_111_16
          have eh131_111_18 : ri_at h131 111 18 = (cn.length : Int) := (ri_ne wh131 (.inl (by decide))).trans eh126_111_18
          clear eh126_111_18
          have eh131_r1 : ri_at h131 119 (b + 1) = x130.toInt := ri_self wh131
          have eh131_r14 : ri_at h131 119 (b + 14) = ri_at h0 119 (b + 14) := (ri_ne wh131 (.inr (by omega))).trans eh126_r14
          clear eh126_r14
          have Zh131 := zR_wr wh131 Zh126 (.inl (by decide))
          refine ex_al oq_X12_gateLine_96 gL115_0 ?_
          refine ex_bi oq_X12_gateLine_97 (m := 20) (by decide) (fun x132 hx132 => ?_)
          refine ex_si oq_X12_gateLine_99 (m := 400) (by decide) (fun x133 hx133 => ?_)
          refine ex_cv oq_X12_gateLine_102 (by decide) Th131 (k := 111) (d := 12) (as := [cv_i x132, cv_i x133]) (stk := []) rfl rfl rfl rfl rfl rfl ⟨rfl, rfl⟩ (R := fun o => ∃ (x : Int32) (hb : cv_H), o = (some (cv_i x), hb) ∧ cw_T G hb ∧ cw_Fr cw_Ds cw_sh kk_X12_number.2.2.2.2.2.1 h131 hb ∧ zRe t n h131 hb x (zn t n x132.toInt x133.toInt q3) (fun v => ri_at hb 111 11 = v)) (rt_number (t := t) (n := n) (p := q3) (fun i hi => by rw [ht i hi, ← hA _ Fh131]) hn9 Th131 (fun i hi => by rw [hB _ Fh131]; exact hwr i hi) (by omega) Zh131 x132 x133 (fun x hb b1 b2 b3 => ⟨x, hb, rfl, b1, b2, b3⟩)) (fun o ho => ?_)
          obtain ⟨x134, h135, rfl, Th135, Ch135, dx134⟩ := ho
          show cw_X _ _ _ _ _ [cv_i x134] h135
          have Fh135 : cw_Fr cw_Ds cw_sh mk_gz h0 h135 := cw_Fr_tr Fh131 (cw_Fr_mono (by decide +kernel) Ch135)
          have Kh135 := zFK_fr Ch135 (by decide +kernel) Kh131
          rw [hx132] at dx134
          rw [hx133] at dx134
          have eh135_111_16 : ri_at h135 111 16 = (l.length : Int) := (ri_frf Ch135 (d := 12) rfl rfl (by decide +kernel)).trans eh131_111_16
          clear eh131_111_16
          have eh135_111_18 : ri_at h135 111 18 = (cn.length : Int) := (ri_frf Ch135 (d := 12) rfl rfl (by decide +kernel)).trans eh131_111_18
          clear eh131_111_18
          have eh135_r1 : ri_at h135 119 (b + 1) = x130.toInt := (ri_frq Ch135 (k := 119) (d := 58) rfl rfl (by decide) (by decide +kernel)).trans eh131_r1
          clear eh131_r1
          have eh135_r14 : ri_at h135 119 (b + 14) = ri_at h0 119 (b + 14) := (ri_frq Ch135 (k := 119) (d := 58) rfl rfl (by decide) (by decide +kernel)).trans eh131_r14
          clear eh131_r14
          refine ex_if0 oq_X12_gateLine_105 (t := 110) rfl rfl (fun (c136 : ¬ x134.toInt = 0) => ?_) (fun (c136 : ¬ (¬ x134.toInt = 0)) => ?_)
          · obtain ⟨v4, q4, e4_1, e4_2, ax134, Zh135, e4_5, e4_6, e4_7⟩ := zRe_yes dx134 c136
            clear dx134 c136
            replace e4_5 := e4_5.trans eh131_111_4
            clear eh131_111_4
            replace e4_6 := e4_6.trans eh131_111_5
            clear eh131_111_5
            obtain ⟨yah135, ybh135, ych135, ydh135, -⟩ := id Zh135
            have zlh135 := zx_le (t := t) (n := n) (p := q4) (by omega)
            clear eh131_111_6 eh131_111_10 eh131_111_7 eh131_111_8
            have e4_8 := zn_rg e4_1
            refine ex_al oq_X12_gateLine_110 gL115_0 ?_
            refine ex_gf oq_X12_gateLine_111 Th135 (k := 111) (d := 12) rfl rfl (fr_gateHas Th135) ?_
            refine ex_il oq_X12_gateLine_114 gL115_1 ?_
            refine ex_ic oq_X12_gateLine_115 (m := 2) (by decide) (fun x137 hx137 => ?_)
            refine ex_add oq_X12_gateLine_116 (by omega) (fun x138 hx138 => ?_)
            refine ex_al oq_X12_gateLine_117 gL115_0 ?_
            obtain ⟨x139, ax139, rx139, lx139, ux139⟩ := fi_got Th135
            refine ex_gf oq_X12_gateLine_118 Th135 (k := 111) (d := 12) rfl rfl ax139 ?_
            have rx139 := (rx139.symm.trans e4_7 : x139.toInt = v4)
            refine ex_iw oq_X12_gateLine_121 Th135 (k := 119) (d := 58) (j := b + 2) rfl rfl (by omega) (by omega) (fun r hr => gh_get hr _ (cw_i32 _)) (fun h140 Th140 wh140 => ?_)
            have Fh140 : cw_Fr cw_Ds cw_sh mk_gz h0 h140 := cw_Fr_tr Fh135 (cw_Fr_wrr wh140 (k := 119) (d := 58) rfl rfl (by decide +kernel))
            have Kh140 := zFK_wr (k := 119) wh140 ((by show 64 ≤ _; omega)) Kh135
            have eh140_111_4 : ri_at h140 111 4 = ri_at h0 111 4 := (ri_ne wh140 (.inl (by decide))).trans e4_5
            have eh140_111_5 : ri_at h140 111 5 = ri_at h0 111 5 := (ri_ne wh140 (.inl (by decide))).trans e4_6
            have eh140_111_6 : ri_at h140 111 6 = (n : Int) := (ri_ne wh140 (.inl (by decide))).trans yah135
            have eh140_111_7 : ri_at h140 111 7 = ((zx t n q4 : Nat) : Int) := (ri_ne wh140 (.inl (by decide))).trans ych135
            have eh140_111_8 : ri_at h140 111 8 = zk t n q4 := (ri_ne wh140 (.inl (by decide))).trans ydh135
            have eh140_111_10 : ri_at h140 111 10 = ((za t n q4 : Nat) : Int) := (ri_ne wh140 (.inl (by decide))).trans ybh135
            have eh140_111_11 : ri_at h140 111 11 = v4 := (ri_ne wh140 (.inl (by decide))).trans e4_7
            have eh140_111_16 : ri_at h140 111 16 = (l.length : Int) := (ri_ne wh140 (.inl (by decide))).trans eh135_111_16
            clear eh135_111_16
            have eh140_111_18 : ri_at h140 111 18 = (cn.length : Int) := (ri_ne wh140 (.inl (by decide))).trans eh135_111_18
            clear eh135_111_18
            have eh140_r1 : ri_at h140 119 (b + 1) = x130.toInt := (ri_ne wh140 (.inr (by omega))).trans eh135_r1
            clear eh135_r1
            have eh140_r14 : ri_at h140 119 (b + 14) = ri_at h0 119 (b + 14) := (ri_ne wh140 (.inr (by omega))).trans eh135_r14
            clear eh135_r14
            have Zh140 := zR_wr wh140 Zh135 (.inl (by decide))
            refine ex_al oq_X12_gateLine_122 gL115_0 ?_
            refine ex_gf oq_X12_gateLine_123 Th140 (k := 111) (d := 12) rfl rfl (fr_gateHas Th140) ?_
            refine ex_il oq_X12_gateLine_126 gL115_1 ?_
            refine ex_ic oq_X12_gateLine_127 (m := 3) (by decide) (fun x141 hx141 => ?_)
            refine ex_add oq_X12_gateLine_128 (by omega) (fun x142 hx142 => ?_)
            refine ex_bi oq_X12_gateLine_129 (m := 6) (by decide) (fun x143 hx143 => ?_)
            refine ex_iw oq_X12_gateLine_131 Th140 (k := 119) (d := 58) (j := b + 3) rfl rfl (by omega) (by omega) (fun r hr => gh_get hr _ (cw_i32 _)) (fun h144 Th144 wh144 => ?_)
            have Fh144 : cw_Fr cw_Ds cw_sh mk_gz h0 h144 := cw_Fr_tr Fh140 (cw_Fr_wrr wh144 (k := 119) (d := 58) rfl rfl (by decide +kernel))
            have Kh144 := zFK_wr (k := 119) wh144 ((by show 64 ≤ _; omega)) Kh140
            have eh144_111_4 : ri_at h144 111 4 = ri_at h0 111 4 := (ri_ne wh144 (.inl (by decide))).trans eh140_111_4
            clear eh140_111_4
            have eh144_111_5 : ri_at h144 111 5 = ri_at h0 111 5 := (ri_ne wh144 (.inl (by decide))).trans eh140_111_5
            clear eh140_111_5
            have eh144_111_6 : ri_at h144 111 6 = (n : Int) := (ri_ne wh144 (.inl (by decide))).trans eh140_111_6
            clear eh140_111_6
            have eh144_111_7 : ri_at h144 111 7 = ((zx t n q4 : Nat) : Int) := (ri_ne wh144 (.inl (by decide))).trans eh140_111_7
            clear eh140_111_7
            have eh144_111_8 : ri_at h144 111 8 = zk t n q4 := (ri_ne wh144 (.inl (by decide))).trans eh140_111_8
            clear eh140_111_8
            have eh144_111_10 : ri_at h144 111 10 = ((za t n q4 : Nat) : Int) := (ri_ne wh144 (.inl (by decide))).trans eh140_111_10
            clear eh140_111_10
            have eh144_111_11 : ri_at h144 111 11 = v4 := (ri_ne wh144 (.inl (by decide))).trans eh140_111_11
            clear eh140_111_11
            have eh144_111_16 : ri_at h144 111 16 = (l.length : Int) := (ri_ne wh144 (.inl (by decide))).trans eh140_111_16
            clear eh140_111_16
            have eh144_111_18 : ri_at h144 111 18 = (cn.length : Int) := (ri_ne wh144 (.inl (by decide))).trans eh140_111_18
            clear eh140_111_18
            have eh144_r1 : ri_at h144 119 (b + 1) = x130.toInt := (ri_ne wh144 (.inr (by omega))).trans eh140_r1
            clear eh140_r1
            have eh144_r14 : ri_at h144 119 (b + 14) = ri_at h0 119 (b + 14) := (ri_ne wh144 (.inr (by omega))).trans eh140_r14
            clear eh140_r14
            have Zh144 := zR_wr wh144 Zh140 (.inl (by decide))
            refine ex_al oq_X12_gateLine_132 gL115_0 ?_
            refine ex_gf oq_X12_gateLine_133 Th144 (k := 111) (d := 12) rfl rfl (fr_gateHas Th144) ?_
            refine ex_il oq_X12_gateLine_136 gL115_1 ?_
            refine ex_ic oq_X12_gateLine_137 (m := 4) (by decide) (fun x145 hx145 => ?_)
            refine ex_add oq_X12_gateLine_138 (by omega) (fun x146 hx146 => ?_)
            refine ex_al oq_X12_gateLine_139 gL115_0 ?_
            refine ex_gf oq_X12_gateLine_140 Th144 (k := 111) (d := 12) rfl rfl (fr_gateHas Th144) ?_
            refine ex_il oq_X12_gateLine_143 gL115_1 ?_
            refine ex_ic oq_X12_gateLine_144 (m := 1) (by decide) (fun x147 hx147 => ?_)
            refine ex_add oq_X12_gateLine_145 (by omega) (fun x148 hx148 => ?_)
            refine ex_iap oq_X12_gateLine_146 Th144 (k := 119) (d := 58) (j := b + 1) rfl rfl (by omega) (by omega) (fun x149 hx149 => ?_)
            have hx149 := (hx149.symm.trans eh144_r1 : x149.toInt = x130.toInt)
            refine ex_bi oq_X12_gateLine_147 (m := 6) (by decide) (fun x150 hx150 => ?_)
            refine ex_sub oq_X12_gateLine_149 (by omega) (fun x151 hx151 => ?_)
            refine ex_iw oq_X12_gateLine_150 Th144 (k := 119) (d := 58) (j := b + 4) rfl rfl (by omega) (by omega) (fun r hr => gh_get hr _ (cw_i32 _)) (fun h152 Th152 wh152 => ?_)
            have Fh152 : cw_Fr cw_Ds cw_sh mk_gz h0 h152 := cw_Fr_tr Fh144 (cw_Fr_wrr wh152 (k := 119) (d := 58) rfl rfl (by decide +kernel))
            have Kh152 := zFK_wr (k := 119) wh152 ((by show 64 ≤ _; omega)) Kh144
            have eh152_111_4 : ri_at h152 111 4 = ri_at h0 111 4 := (ri_ne wh152 (.inl (by decide))).trans eh144_111_4
            clear eh144_111_4
            have eh152_111_5 : ri_at h152 111 5 = ri_at h0 111 5 := (ri_ne wh152 (.inl (by decide))).trans eh144_111_5
            clear eh144_111_5
            have eh152_111_6 : ri_at h152 111 6 = (n : Int) := (ri_ne wh152 (.inl (by decide))).trans eh144_111_6
            clear eh144_111_6
            have eh152_111_7 : ri_at h152 111 7 = ((zx t n q4 : Nat) : Int) := (ri_ne wh152 (.inl (by decide))).trans eh144_111_7
            clear eh144_111_7
            have eh152_111_8 : ri_at h152 111 8 = zk t n q4 := (ri_ne wh152 (.inl (by decide))).trans eh144_111_8
            clear eh144_111_8
            have eh152_111_10 : ri_at h152 111 10 = ((za t n q4 : Nat) : Int) := (ri_ne wh152 (.inl (by decide))).trans eh144_111_10
            clear eh144_111_10
            have eh152_111_11 : ri_at h152 111 11 = v4 := (ri_ne wh152 (.inl (by decide))).trans eh144_111_11
            clear eh144_111_11
            have eh152_111_16 : ri_at h152 111 16 = (l.length : Int) := (ri_ne wh152 (.inl (by decide))).trans eh144_111_16
            clear eh144_111_16
            have eh152_111_18 : ri_at h152 111 18 = (cn.length : Int) := (ri_ne wh152 (.inl (by decide))).trans eh144_111_18
            clear eh144_111_18
            have eh152_r1 : ri_at h152 119 (b + 1) = x130.toInt := (ri_ne wh152 (.inr (by omega))).trans eh144_r1
            clear eh144_r1
            have eh152_r14 : ri_at h152 119 (b + 14) = ri_at h0 119 (b + 14) := (ri_ne wh152 (.inr (by omega))).trans eh144_r14
            clear eh144_r14
            have Zh152 := zR_wr wh152 Zh144 (.inl (by decide))
            refine ex_al oq_X12_gateLine_151 gL115_0 ?_
            refine ex_gf oq_X12_gateLine_152 Th152 (k := 111) (d := 12) rfl rfl (fr_gateHas Th152) ?_
            refine ex_il oq_X12_gateLine_155 gL115_1 ?_
            refine ex_ic oq_X12_gateLine_156 (m := 5) (by decide) (fun x153 hx153 => ?_)
            refine ex_add oq_X12_gateLine_157 (by omega) (fun x154 hx154 => ?_)
            refine ex_ic oq_X12_gateLine_158 (m := 0) (by decide) (fun x155 hx155 => ?_)
            refine ex_iw oq_X12_gateLine_159 Th152 (k := 119) (d := 58) (j := b + 5) rfl rfl (by omega) (by omega) (fun r hr => gh_get hr _ (cw_i32 _)) (fun h156 Th156 wh156 => ?_)
            have Fh156 : cw_Fr cw_Ds cw_sh mk_gz h0 h156 := cw_Fr_tr Fh152 (cw_Fr_wrr wh156 (k := 119) (d := 58) rfl rfl (by decide +kernel))
            have Kh156 := zFK_wr (k := 119) wh156 ((by show 64 ≤ _; omega)) Kh152
            have eh156_111_4 : ri_at h156 111 4 = ri_at h0 111 4 := (ri_ne wh156 (.inl (by decide))).trans eh152_111_4
            clear eh152_111_4
            have eh156_111_5 : ri_at h156 111 5 = ri_at h0 111 5 := (ri_ne wh156 (.inl (by decide))).trans eh152_111_5
            clear eh152_111_5
            have eh156_111_6 : ri_at h156 111 6 = (n : Int) := (ri_ne wh156 (.inl (by decide))).trans eh152_111_6
            clear eh152_111_6
            have eh156_111_7 : ri_at h156 111 7 = ((zx t n q4 : Nat) : Int) := (ri_ne wh156 (.inl (by decide))).trans eh152_111_7
            clear eh152_111_7
            have eh156_111_8 : ri_at h156 111 8 = zk t n q4 := (ri_ne wh156 (.inl (by decide))).trans eh152_111_8
            clear eh152_111_8
            have eh156_111_10 : ri_at h156 111 10 = ((za t n q4 : Nat) : Int) := (ri_ne wh156 (.inl (by decide))).trans eh152_111_10
            clear eh152_111_10
            have eh156_111_11 : ri_at h156 111 11 = v4 := (ri_ne wh156 (.inl (by decide))).trans eh152_111_11
            clear eh152_111_11
            have eh156_111_16 : ri_at h156 111 16 = (l.length : Int) := (ri_ne wh156 (.inl (by decide))).trans eh152_111_16
            clear eh152_111_16
            have eh156_111_18 : ri_at h156 111 18 = (cn.length : Int) := (ri_ne wh156 (.inl (by decide))).trans eh152_111_18
            clear eh152_111_18
            have eh156_r1 : ri_at h156 119 (b + 1) = x130.toInt := (ri_ne wh156 (.inr (by omega))).trans eh152_r1
            clear eh152_r1
            have eh156_r14 : ri_at h156 119 (b + 14) = ri_at h0 119 (b + 14) := (ri_ne wh156 (.inr (by omega))).trans eh152_r14
            clear eh152_r14
            have Zh156 := zR_wr wh156 Zh152 (.inl (by decide))
            refine ex_al oq_X12_gateLine_160 gL115_0 ?_
            refine ex_gf oq_X12_gateLine_161 Th156 (k := 111) (d := 12) rfl rfl (fr_gateHas Th156) ?_
            refine ex_il oq_X12_gateLine_164 gL115_1 ?_
            refine ex_bi oq_X12_gateLine_165 (m := 6) (by decide) (fun x157 hx157 => ?_)
            refine ex_add oq_X12_gateLine_167 (by omega) (fun x158 hx158 => ?_)
            refine ex_ic oq_X12_gateLine_168 (m := 0) (by decide) (fun x159 hx159 => ?_)
            refine ex_iw oq_X12_gateLine_169 Th156 (k := 119) (d := 58) (j := b + 6) rfl rfl (by omega) (by omega) (fun r hr => gh_get hr _ (cw_i32 _)) (fun h160 Th160 wh160 => ?_)
            have Fh160 : cw_Fr cw_Ds cw_sh mk_gz h0 h160 := cw_Fr_tr Fh156 (cw_Fr_wrr wh160 (k := 119) (d := 58) rfl rfl (by decide +kernel))
            have Kh160 := zFK_wr (k := 119) wh160 ((by show 64 ≤ _; omega)) Kh156
            have eh160_111_4 : ri_at h160 111 4 = ri_at h0 111 4 := (ri_ne wh160 (.inl (by decide))).trans eh156_111_4
            clear eh156_111_4
            have eh160_111_5 : ri_at h160 111 5 = ri_at h0 111 5 := (ri_ne wh160 (.inl (by decide))).trans eh156_111_5
            clear eh156_111_5
            have eh160_111_6 : ri_at h160 111 6 = (n : Int) := (ri_ne wh160 (.inl (by decide))).trans eh156_111_6
            clear eh156_111_6
            have eh160_111_7 : ri_at h160 111 7 = ((zx t n q4 : Nat) : Int) := (ri_ne wh160 (.inl (by decide))).trans eh156_111_7
            clear eh156_111_7
            have eh160_111_8 : ri_at h160 111 8 = zk t n q4 := (ri_ne wh160 (.inl (by decide))).trans eh156_111_8
            clear eh156_111_8
            have eh160_111_10 : ri_at h160 111 10 = ((za t n q4 : Nat) : Int) := (ri_ne wh160 (.inl (by decide))).trans eh156_111_10
            clear eh156_111_10
            have eh160_111_11 : ri_at h160 111 11 = v4 := (ri_ne wh160 (.inl (by decide))).trans eh156_111_11
            clear eh156_111_11
            have eh160_111_16 : ri_at h160 111 16 = (l.length : Int) := (ri_ne wh160 (.inl (by decide))).trans eh156_111_16
            clear eh156_111_16
            have eh160_111_18 : ri_at h160 111 18 = (cn.length : Int) := (ri_ne wh160 (.inl (by decide))).trans eh156_111_18
            clear eh156_111_18
            have eh160_r1 : ri_at h160 119 (b + 1) = x130.toInt := (ri_ne wh160 (.inr (by omega))).trans eh156_r1
            clear eh156_r1
            have eh160_r14 : ri_at h160 119 (b + 14) = ri_at h0 119 (b + 14) := (ri_ne wh160 (.inr (by omega))).trans eh156_r14
            clear eh156_r14
            have Zh160 := zR_wr wh160 Zh156 (.inl (by decide))
            refine ex_al oq_X12_gateLine_170 gL115_0 ?_
            refine ex_gf oq_X12_gateLine_171 Th160 (k := 111) (d := 12) rfl rfl (fr_gateHas Th160) ?_
            refine ex_il oq_X12_gateLine_174 gL115_1 ?_
            refine ex_bi oq_X12_gateLine_175 (m := 7) (by decide) (fun x161 hx161 => ?_)
            refine ex_add oq_X12_gateLine_177 (by omega) (fun x162 hx162 => ?_)
            refine ex_bi oq_X12_gateLine_178 (m := 36) (by decide) (fun x163 hx163 => ?_)
            refine ex_iw oq_X12_gateLine_180 Th160 (k := 119) (d := 58) (j := b + 7) rfl rfl (by omega) (by omega) (fun r hr => gh_get hr _ (cw_i32 _)) (fun h164 Th164 wh164 => ?_)
            have Fh164 : cw_Fr cw_Ds cw_sh mk_gz h0 h164 := cw_Fr_tr Fh160 (cw_Fr_wrr wh164 (k := 119) (d := 58) rfl rfl (by decide +kernel))
            have Kh164 := zFK_wr (k := 119) wh164 ((by show 64 ≤ _; omega)) Kh160
            have eh164_111_4 : ri_at h164 111 4 = ri_at h0 111 4 := (ri_ne wh164 (.inl (by decide))).trans eh160_111_4
            clear eh160_111_4
            have eh164_111_5 : ri_at h164 111 5 = ri_at h0 111 5 := (ri_ne wh164 (.inl (by decide))).trans eh160_111_5
            clear eh160_111_5
            have eh164_111_6 : ri_at h164 111 6 = (n : Int) := (ri_ne wh164 (.inl (by decide))).trans eh160_111_6
            clear eh160_111_6
            have eh164_111_7 : ri_at h164 111 7 = ((zx t n q4 : Nat) : Int) := (ri_ne wh164 (.inl (by decide))).trans eh160_111_7
            clear eh160_111_7
            have eh164_111_8 : ri_at h164 111 8 = zk t n q4 := (ri_ne wh164 (.inl (by decide))).trans eh160_111_8
            clear eh160_111_8
            have eh164_111_10 : ri_at h164 111 10 = ((za t n q4 : Nat) : Int) := (ri_ne wh164 (.inl (by decide))).trans eh160_111_10
            clear eh160_111_10
            have eh164_111_11 : ri_at h164 111 11 = v4 := (ri_ne wh164 (.inl (by decide))).trans eh160_111_11
            clear eh160_111_11
            have eh164_111_16 : ri_at h164 111 16 = (l.length : Int) := (ri_ne wh164 (.inl (by decide))).trans eh160_111_16
            clear eh160_111_16
            have eh164_111_18 : ri_at h164 111 18 = (cn.length : Int) := (ri_ne wh164 (.inl (by decide))).trans eh160_111_18
            clear eh160_111_18
            have eh164_r1 : ri_at h164 119 (b + 1) = x130.toInt := (ri_ne wh164 (.inr (by omega))).trans eh160_r1
            clear eh160_r1
            have eh164_r14 : ri_at h164 119 (b + 14) = ri_at h0 119 (b + 14) := (ri_ne wh164 (.inr (by omega))).trans eh160_r14
            clear eh160_r14
            have Zh164 := zR_wr wh164 Zh160 (.inl (by decide))
            refine ex_al oq_X12_gateLine_181 gL115_0 ?_
            refine ex_gf oq_X12_gateLine_182 Th164 (k := 111) (d := 12) rfl rfl (fr_gateHas Th164) ?_
            refine ex_il oq_X12_gateLine_185 gL115_1 ?_
            refine ex_bi oq_X12_gateLine_186 (m := 8) (by decide) (fun x165 hx165 => ?_)
            refine ex_add oq_X12_gateLine_188 (by omega) (fun x166 hx166 => ?_)
            refine ex_bi oq_X12_gateLine_189 (m := 8) (by decide) (fun x167 hx167 => ?_)
            refine ex_iw oq_X12_gateLine_191 Th164 (k := 119) (d := 58) (j := b + 8) rfl rfl (by omega) (by omega) (fun r hr => gh_get hr _ (cw_i32 _)) (fun h168 Th168 wh168 => ?_)
            have Fh168 : cw_Fr cw_Ds cw_sh mk_gz h0 h168 := cw_Fr_tr Fh164 (cw_Fr_wrr wh168 (k := 119) (d := 58) rfl rfl (by decide +kernel))
            have Kh168 := zFK_wr (k := 119) wh168 ((by show 64 ≤ _; omega)) Kh164
            have eh168_111_4 : ri_at h168 111 4 = ri_at h0 111 4 := (ri_ne wh168 (.inl (by decide))).trans eh164_111_4
            clear eh164_111_4
            have eh168_111_5 : ri_at h168 111 5 = ri_at h0 111 5 := (ri_ne wh168 (.inl (by decide))).trans eh164_111_5
            clear eh164_111_5
            have eh168_111_6 : ri_at h168 111 6 = (n : Int) := (ri_ne wh168 (.inl (by decide))).trans eh164_111_6
            clear eh164_111_6
            have eh168_111_7 : ri_at h168 111 7 = ((zx t n q4 : Nat) : Int) := (ri_ne wh168 (.inl (by decide))).trans eh164_111_7
            clear eh164_111_7
            have eh168_111_8 : ri_at h168 111 8 = zk t n q4 := (ri_ne wh168 (.inl (by decide))).trans eh164_111_8
            clear eh164_111_8
            have eh168_111_10 : ri_at h168 111 10 = ((za t n q4 : Nat) : Int) := (ri_ne wh168 (.inl (by decide))).trans eh164_111_10
            clear eh164_111_10
            have eh168_111_11 : ri_at h168 111 11 = v4 := (ri_ne wh168 (.inl (by decide))).trans eh164_111_11
            clear eh164_111_11
            have eh168_111_16 : ri_at h168 111 16 = (l.length : Int) := (ri_ne wh168 (.inl (by decide))).trans eh164_111_16
            clear eh164_111_16
            have eh168_111_18 : ri_at h168 111 18 = (cn.length : Int) := (ri_ne wh168 (.inl (by decide))).trans eh164_111_18
            clear eh164_111_18
            have eh168_r1 : ri_at h168 119 (b + 1) = x130.toInt := (ri_ne wh168 (.inr (by omega))).trans eh164_r1
            clear eh164_r1
            have eh168_r14 : ri_at h168 119 (b + 14) = ri_at h0 119 (b + 14) := (ri_ne wh168 (.inr (by omega))).trans eh164_r14
            clear eh164_r14
            have Zh168 := zR_wr wh168 Zh164 (.inl (by decide))
            refine ex_al oq_X12_gateLine_192 gL115_0 ?_
            refine ex_gf oq_X12_gateLine_193 Th168 (k := 111) (d := 12) rfl rfl (fr_gateHas Th168) ?_
            refine ex_il oq_X12_gateLine_196 gL115_1 ?_
            refine ex_bi oq_X12_gateLine_197 (m := 9) (by decide) (fun x169 hx169 => ?_)
            refine ex_add oq_X12_gateLine_199 (by omega) (fun x170 hx170 => ?_)
            refine ex_ic oq_X12_gateLine_200 (m := 0) (by decide) (fun x171 hx171 => ?_)
            refine ex_iw oq_X12_gateLine_201 Th168 (k := 119) (d := 58) (j := b + 9) rfl rfl (by omega) (by omega) (fun r hr => gh_get hr _ (cw_i32 _)) (fun h172 Th172 wh172 => ?_)
            have Fh172 : cw_Fr cw_Ds cw_sh mk_gz h0 h172 := cw_Fr_tr Fh168 (cw_Fr_wrr wh172 (k := 119) (d := 58) rfl rfl (by decide +kernel))
            have Kh172 := zFK_wr (k := 119) wh172 ((by show 64 ≤ _; omega)) Kh168
            have eh172_111_4 : ri_at h172 111 4 = ri_at h0 111 4 := (ri_ne wh172 (.inl (by decide))).trans eh168_111_4
            clear eh168_111_4
            have eh172_111_5 : ri_at h172 111 5 = ri_at h0 111 5 := (ri_ne wh172 (.inl (by decide))).trans eh168_111_5
            clear eh168_111_5
            have eh172_111_6 : ri_at h172 111 6 = (n : Int) := (ri_ne wh172 (.inl (by decide))).trans eh168_111_6
            clear eh168_111_6
            have eh172_111_7 : ri_at h172 111 7 = ((zx t n q4 : Nat) : Int) := (ri_ne wh172 (.inl (by decide))).trans eh168_111_7
            clear eh168_111_7
            have eh172_111_8 : ri_at h172 111 8 = zk t n q4 := (ri_ne wh172 (.inl (by decide))).trans eh168_111_8
            clear eh168_111_8
            have eh172_111_10 : ri_at h172 111 10 = ((za t n q4 : Nat) : Int) := (ri_ne wh172 (.inl (by decide))).trans eh168_111_10
            clear eh168_111_10
            have eh172_111_11 : ri_at h172 111 11 = v4 := (ri_ne wh172 (.inl (by decide))).trans eh168_111_11
            clear eh168_111_11
            have eh172_111_16 : ri_at h172 111 16 = (l.length : Int) := (ri_ne wh172 (.inl (by decide))).trans eh168_111_16
            clear eh168_111_16
            have eh172_111_18 : ri_at h172 111 18 = (cn.length : Int) := (ri_ne wh172 (.inl (by decide))).trans eh168_111_18
            clear eh168_111_18
            have eh172_r1 : ri_at h172 119 (b + 1) = x130.toInt := (ri_ne wh172 (.inr (by omega))).trans eh168_r1
            clear eh168_r1
            have eh172_r14 : ri_at h172 119 (b + 14) = ri_at h0 119 (b + 14) := (ri_ne wh172 (.inr (by omega))).trans eh168_r14
            clear eh168_r14
            have Zh172 := zR_wr wh172 Zh168 (.inl (by decide))
            refine ex_al oq_X12_gateLine_202 gL115_0 ?_
            refine ex_gf oq_X12_gateLine_203 Th172 (k := 111) (d := 12) rfl rfl (fr_gateHas Th172) ?_
            refine ex_il oq_X12_gateLine_206 gL115_1 ?_
            refine ex_bi oq_X12_gateLine_207 (m := 10) (by decide) (fun x173 hx173 => ?_)
            refine ex_add oq_X12_gateLine_209 (by omega) (fun x174 hx174 => ?_)
            refine ex_si oq_X12_gateLine_210 (m := 1000) (by decide) (fun x175 hx175 => ?_)
            refine ex_iw oq_X12_gateLine_213 Th172 (k := 119) (d := 58) (j := b + 10) rfl rfl (by omega) (by omega) (fun r hr => gh_get hr _ (cw_i32 _)) (fun h176 Th176 wh176 => ?_)
            have Fh176 : cw_Fr cw_Ds cw_sh mk_gz h0 h176 := cw_Fr_tr Fh172 (cw_Fr_wrr wh176 (k := 119) (d := 58) rfl rfl (by decide +kernel))
            have Kh176 := zFK_wr (k := 119) wh176 ((by show 64 ≤ _; omega)) Kh172
            have eh176_111_4 : ri_at h176 111 4 = ri_at h0 111 4 := (ri_ne wh176 (.inl (by decide))).trans eh172_111_4
            clear eh172_111_4
            have eh176_111_5 : ri_at h176 111 5 = ri_at h0 111 5 := (ri_ne wh176 (.inl (by decide))).trans eh172_111_5
            clear eh172_111_5
            have eh176_111_6 : ri_at h176 111 6 = (n : Int) := (ri_ne wh176 (.inl (by decide))).trans eh172_111_6
            clear eh172_111_6
            have eh176_111_7 : ri_at h176 111 7 = ((zx t n q4 : Nat) : Int) := (ri_ne wh176 (.inl (by decide))).trans eh172_111_7
            clear eh172_111_7
            have eh176_111_8 : ri_at h176 111 8 = zk t n q4 := (ri_ne wh176 (.inl (by decide))).trans eh172_111_8
            clear eh172_111_8
            have eh176_111_10 : ri_at h176 111 10 = ((za t n q4 : Nat) : Int) := (ri_ne wh176 (.inl (by decide))).trans eh172_111_10
            clear eh172_111_10
            have eh176_111_11 : ri_at h176 111 11 = v4 := (ri_ne wh176 (.inl (by decide))).trans eh172_111_11
            clear eh172_111_11
            have eh176_111_16 : ri_at h176 111 16 = (l.length : Int) := (ri_ne wh176 (.inl (by decide))).trans eh172_111_16
            clear eh172_111_16
            have eh176_111_18 : ri_at h176 111 18 = (cn.length : Int) := (ri_ne wh176 (.inl (by decide))).trans eh172_111_18
            clear eh172_111_18
            have eh176_r1 : ri_at h176 119 (b + 1) = x130.toInt := (ri_ne wh176 (.inr (by omega))).trans eh172_r1
            clear eh172_r1
            have eh176_r14 : ri_at h176 119 (b + 14) = ri_at h0 119 (b + 14) := (ri_ne wh176 (.inr (by omega))).trans eh172_r14
            clear eh172_r14
            have Zh176 := zR_wr wh176 Zh172 (.inl (by decide))
            refine ex_al oq_X12_gateLine_214 gL115_0 ?_
            refine ex_gf oq_X12_gateLine_215 Th176 (k := 111) (d := 12) rfl rfl (fr_gateHas Th176) ?_
            refine ex_il oq_X12_gateLine_218 gL115_1 ?_
            refine ex_bi oq_X12_gateLine_219 (m := 11) (by decide) (fun x177 hx177 => ?_)
            refine ex_add oq_X12_gateLine_221 (by omega) (fun x178 hx178 => ?_)
            refine ex_si oq_X12_gateLine_222 (m := 1000) (by decide) (fun x179 hx179 => ?_)
            refine ex_iw oq_X12_gateLine_225 Th176 (k := 119) (d := 58) (j := b + 11) rfl rfl (by omega) (by omega) (fun r hr => gh_get hr _ (cw_i32 _)) (fun h180 Th180 wh180 => ?_)
            have Fh180 : cw_Fr cw_Ds cw_sh mk_gz h0 h180 := cw_Fr_tr Fh176 (cw_Fr_wrr wh180 (k := 119) (d := 58) rfl rfl (by decide +kernel))
            have Kh180 := zFK_wr (k := 119) wh180 ((by show 64 ≤ _; omega)) Kh176
            have eh180_111_4 : ri_at h180 111 4 = ri_at h0 111 4 := (ri_ne wh180 (.inl (by decide))).trans eh176_111_4
            clear eh176_111_4
            have eh180_111_5 : ri_at h180 111 5 = ri_at h0 111 5 := (ri_ne wh180 (.inl (by decide))).trans eh176_111_5
            clear eh176_111_5
            have eh180_111_6 : ri_at h180 111 6 = (n : Int) := (ri_ne wh180 (.inl (by decide))).trans eh176_111_6
            clear eh176_111_6
            have eh180_111_7 : ri_at h180 111 7 = ((zx t n q4 : Nat) : Int) := (ri_ne wh180 (.inl (by decide))).trans eh176_111_7
            clear eh176_111_7
            have eh180_111_8 : ri_at h180 111 8 = zk t n q4 := (ri_ne wh180 (.inl (by decide))).trans eh176_111_8
            clear eh176_111_8
            have eh180_111_10 : ri_at h180 111 10 = ((za t n q4 : Nat) : Int) := (ri_ne wh180 (.inl (by decide))).trans eh176_111_10
            clear eh176_111_10
            have eh180_111_11 : ri_at h180 111 11 = v4 := (ri_ne wh180 (.inl (by decide))).trans eh176_111_11
            clear eh176_111_11
            have eh180_111_16 : ri_at h180 111 16 = (l.length : Int) := (ri_ne wh180 (.inl (by decide))).trans eh176_111_16
            clear eh176_111_16
            have eh180_111_18 : ri_at h180 111 18 = (cn.length : Int) := (ri_ne wh180 (.inl (by decide))).trans eh176_111_18
            clear eh176_111_18
            have eh180_r1 : ri_at h180 119 (b + 1) = x130.toInt := (ri_ne wh180 (.inr (by omega))).trans eh176_r1
            clear eh176_r1
            have eh180_r14 : ri_at h180 119 (b + 14) = ri_at h0 119 (b + 14) := (ri_ne wh180 (.inr (by omega))).trans eh176_r14
            clear eh176_r14
            have Zh180 := zR_wr wh180 Zh176 (.inl (by decide))
            refine ex_al oq_X12_gateLine_226 gL115_0 ?_
            refine ex_gf oq_X12_gateLine_227 Th180 (k := 111) (d := 12) rfl rfl (fr_gateHas Th180) ?_
            refine ex_il oq_X12_gateLine_230 gL115_1 ?_
            refine ex_bi oq_X12_gateLine_231 (m := 12) (by decide) (fun x181 hx181 => ?_)
            refine ex_add oq_X12_gateLine_233 (by omega) (fun x182 hx182 => ?_)
            refine ex_ic oq_X12_gateLine_234 (m := 0) (by decide) (fun x183 hx183 => ?_)
            refine ex_iw oq_X12_gateLine_235 Th180 (k := 119) (d := 58) (j := b + 12) rfl rfl (by omega) (by omega) (fun r hr => gh_get hr _ (cw_i32 _)) (fun h184 Th184 wh184 => ?_)
            have Fh184 : cw_Fr cw_Ds cw_sh mk_gz h0 h184 := cw_Fr_tr Fh180 (cw_Fr_wrr wh184 (k := 119) (d := 58) rfl rfl (by decide +kernel))
            have Kh184 := zFK_wr (k := 119) wh184 ((by show 64 ≤ _; omega)) Kh180
            have eh184_111_4 : ri_at h184 111 4 = ri_at h0 111 4 := (ri_ne wh184 (.inl (by decide))).trans eh180_111_4
            clear eh180_111_4
            have eh184_111_5 : ri_at h184 111 5 = ri_at h0 111 5 := (ri_ne wh184 (.inl (by decide))).trans eh180_111_5
            clear eh180_111_5
            have eh184_111_6 : ri_at h184 111 6 = (n : Int) := (ri_ne wh184 (.inl (by decide))).trans eh180_111_6
            clear eh180_111_6
            have eh184_111_7 : ri_at h184 111 7 = ((zx t n q4 : Nat) : Int) := (ri_ne wh184 (.inl (by decide))).trans eh180_111_7
            clear eh180_111_7
            have eh184_111_8 : ri_at h184 111 8 = zk t n q4 := (ri_ne wh184 (.inl (by decide))).trans eh180_111_8
            clear eh180_111_8
            have eh184_111_10 : ri_at h184 111 10 = ((za t n q4 : Nat) : Int) := (ri_ne wh184 (.inl (by decide))).trans eh180_111_10
            clear eh180_111_10
            have eh184_111_11 : ri_at h184 111 11 = v4 := (ri_ne wh184 (.inl (by decide))).trans eh180_111_11
            clear eh180_111_11
            have eh184_111_16 : ri_at h184 111 16 = (l.length : Int) := (ri_ne wh184 (.inl (by decide))).trans eh180_111_16
            clear eh180_111_16
            have eh184_111_18 : ri_at h184 111 18 = (cn.length : Int) := (ri_ne wh184 (.inl (by decide))).trans eh180_111_18
            clear eh180_111_18
            have eh184_r1 : ri_at h184 119 (b + 1) = x130.toInt := (ri_ne wh184 (.inr (by omega))).trans eh180_r1
            clear eh180_r1
            have eh184_r14 : ri_at h184 119 (b + 14) = ri_at h0 119 (b + 14) := (ri_ne wh184 (.inr (by omega))).trans eh180_r14
            clear eh180_r14
            have Zh184 := zR_wr wh184 Zh180 (.inl (by decide))
            refine ex_al oq_X12_gateLine_236 gL115_0 ?_
            refine ex_gf oq_X12_gateLine_237 Th184 (k := 111) (d := 12) rfl rfl (fr_gateHas Th184) ?_
            refine ex_il oq_X12_gateLine_240 gL115_1 ?_
            refine ex_bi oq_X12_gateLine_241 (m := 13) (by decide) (fun x185 hx185 => ?_)
            refine ex_add oq_X12_gateLine_243 (by omega) (fun x186 hx186 => ?_)
            refine ex_si oq_X12_gateLine_244 (m := 3000) (by decide) (fun x187 hx187 => ?_)
            refine ex_iw oq_X12_gateLine_247 Th184 (k := 119) (d := 58) (j := b + 13) rfl rfl (by omega) (by omega) (fun r hr => gh_get hr _ (cw_i32 _)) (fun h188 Th188 wh188 => ?_)
            have Fh188 : cw_Fr cw_Ds cw_sh mk_gz h0 h188 := cw_Fr_tr Fh184 (cw_Fr_wrr wh188 (k := 119) (d := 58) rfl rfl (by decide +kernel))
            have Kh188 := zFK_wr (k := 119) wh188 ((by show 64 ≤ _; omega)) Kh184
            have eh188_111_4 : ri_at h188 111 4 = ri_at h0 111 4 := (ri_ne wh188 (.inl (by decide))).trans eh184_111_4
            clear eh184_111_4
            have eh188_111_5 : ri_at h188 111 5 = ri_at h0 111 5 := (ri_ne wh188 (.inl (by decide))).trans eh184_111_5
            clear eh184_111_5
            have eh188_111_6 : ri_at h188 111 6 = (n : Int) := (ri_ne wh188 (.inl (by decide))).trans eh184_111_6
            clear eh184_111_6
            have eh188_111_7 : ri_at h188 111 7 = ((zx t n q4 : Nat) : Int) := (ri_ne wh188 (.inl (by decide))).trans eh184_111_7
            clear eh184_111_7
            have eh188_111_8 : ri_at h188 111 8 = zk t n q4 := (ri_ne wh188 (.inl (by decide))).trans eh184_111_8
            clear eh184_111_8
            have eh188_111_10 : ri_at h188 111 10 = ((za t n q4 : Nat) : Int) := (ri_ne wh188 (.inl (by decide))).trans eh184_111_10
            clear eh184_111_10
            have eh188_111_11 : ri_at h188 111 11 = v4 := (ri_ne wh188 (.inl (by decide))).trans eh184_111_11
            clear eh184_111_11
            have eh188_111_16 : ri_at h188 111 16 = (l.length : Int) := (ri_ne wh188 (.inl (by decide))).trans eh184_111_16
            clear eh184_111_16
            have eh188_111_18 : ri_at h188 111 18 = (cn.length : Int) := (ri_ne wh188 (.inl (by decide))).trans eh184_111_18
            clear eh184_111_18
            have eh188_r1 : ri_at h188 119 (b + 1) = x130.toInt := (ri_ne wh188 (.inr (by omega))).trans eh184_r1
            clear eh184_r1
            have eh188_r14 : ri_at h188 119 (b + 14) = ri_at h0 119 (b + 14) := (ri_ne wh188 (.inr (by omega))).trans eh184_r14
            clear eh184_r14
            have Zh188 := zR_wr wh188 Zh184 (.inl (by decide))
            refine ex_al oq_X12_gateLine_248 gL115_0 ?_
            refine ex_gf oq_X12_gateLine_249 Th188 (k := 111) (d := 12) rfl rfl (fr_gateHas Th188) ?_
            refine ex_il oq_X12_gateLine_252 gL115_1 ?_
            refine ex_bi oq_X12_gateLine_253 (m := 14) (by decide) (fun x189 hx189 => ?_)
            refine ex_add oq_X12_gateLine_255 (by omega) (fun x190 hx190 => ?_)
            refine ex_ic oq_X12_gateLine_256 (m := 0) (by decide) (fun x191 hx191 => ?_)
            refine ex_iw oq_X12_gateLine_257 Th188 (k := 119) (d := 58) (j := b + 14) rfl rfl (by omega) (by omega) (fun r hr => gh_get hr _ (cw_i32 _)) (fun h192 Th192 wh192 => ?_)
            have Fh192 : cw_Fr cw_Ds cw_sh mk_gz h0 h192 := cw_Fr_tr Fh188 (cw_Fr_wrr wh192 (k := 119) (d := 58) rfl rfl (by decide +kernel))
            have Kh192 := zFK_wr (k := 119) wh192 ((by show 64 ≤ _; omega)) Kh188
            have eh192_111_4 : ri_at h192 111 4 = ri_at h0 111 4 := (ri_ne wh192 (.inl (by decide))).trans eh188_111_4
            clear eh188_111_4
            have eh192_111_5 : ri_at h192 111 5 = ri_at h0 111 5 := (ri_ne wh192 (.inl (by decide))).trans eh188_111_5
            clear eh188_111_5
            have eh192_111_6 : ri_at h192 111 6 = (n : Int) := (ri_ne wh192 (.inl (by decide))).trans eh188_111_6
            clear eh188_111_6
            have eh192_111_7 : ri_at h192 111 7 = ((zx t n q4 : Nat) : Int) := (ri_ne wh192 (.inl (by decide))).trans eh188_111_7
            clear eh188_111_7
            have eh192_111_8 : ri_at h192 111 8 = zk t n q4 := (ri_ne wh192 (.inl (by decide))).trans eh188_111_8
            clear eh188_111_8
            have eh192_111_10 : ri_at h192 111 10 = ((za t n q4 : Nat) : Int) := (ri_ne wh192 (.inl (by decide))).trans eh188_111_10
            clear eh188_111_10
            have eh192_111_11 : ri_at h192 111 11 = v4 := (ri_ne wh192 (.inl (by decide))).trans eh188_111_11
            clear eh188_111_11
            have eh192_111_16 : ri_at h192 111 16 = (l.length : Int) := (ri_ne wh192 (.inl (by decide))).trans eh188_111_16
            clear eh188_111_16
            have eh192_111_18 : ri_at h192 111 18 = (cn.length : Int) := (ri_ne wh192 (.inl (by decide))).trans eh188_111_18
            clear eh188_111_18
            have eh192_r1 : ri_at h192 119 (b + 1) = x130.toInt := (ri_ne wh192 (.inr (by omega))).trans eh188_r1
            clear eh188_r1
            have eh192_r14 : ri_at h192 119 (b + 14) = x191.toInt := ri_self wh192
            have Zh192 := zR_wr wh192 Zh188 (.inl (by decide))
            refine ex_ic oq_X12_gateLine_258 (m := 0) (by decide) (fun x193 hx193 => ?_)
            refine ex_isA oq_X12_gateLine_259 (fun L194 gL194_2 kL194 => ?_)
            have gL194_1 : cv_get L194 1 = some (cv_i x114) := kL194 1 _ (by decide) (fun _ => rfl) gL115_1
            have gL194_0 : cv_get L194 0 = some (cv_r 111) := kL194 0 _ (by decide) (fun q => absurd q (by decide)) gL115_0
            refine gl_rsK (h0 := h192) (u := l.length) (by omega) (fun h195 L195 Th195 Ch195 kh195 G0 G1 => ?_) 9 0 h192 L194 x193 rfl (by omega) (by omega) Th192 cw_Fr_refl zFK_0 (by omega) gL194_0 gL194_1 gL194_2
            have Fh195 : cw_Fr cw_Ds cw_sh mk_gz h0 h195 := cw_Fr_tr Fh192 (cw_Fr_mono (by decide +kernel) Ch195)
            have Kh195 := zFK_tr Kh192 kh195
            have eh195_111_4 : ri_at h195 111 4 = ri_at h0 111 4 := (ri_frf Ch195 (d := 12) rfl rfl (by decide +kernel)).trans eh192_111_4
            clear eh192_111_4
            have eh195_111_5 : ri_at h195 111 5 = ri_at h0 111 5 := (ri_frf Ch195 (d := 12) rfl rfl (by decide +kernel)).trans eh192_111_5
            clear eh192_111_5
            have eh195_111_6 : ri_at h195 111 6 = (n : Int) := (ri_frf Ch195 (d := 12) rfl rfl (by decide +kernel)).trans eh192_111_6
            clear eh192_111_6
            have eh195_111_7 : ri_at h195 111 7 = ((zx t n q4 : Nat) : Int) := (ri_frf Ch195 (d := 12) rfl rfl (by decide +kernel)).trans eh192_111_7
            clear eh192_111_7
            have eh195_111_8 : ri_at h195 111 8 = zk t n q4 := (ri_frf Ch195 (d := 12) rfl rfl (by decide +kernel)).trans eh192_111_8
            clear eh192_111_8
            have eh195_111_10 : ri_at h195 111 10 = ((za t n q4 : Nat) : Int) := (ri_frf Ch195 (d := 12) rfl rfl (by decide +kernel)).trans eh192_111_10
            clear eh192_111_10
            have eh195_111_11 : ri_at h195 111 11 = v4 := (ri_frf Ch195 (d := 12) rfl rfl (by decide +kernel)).trans eh192_111_11
            clear eh192_111_11
            have eh195_111_16 : ri_at h195 111 16 = (l.length : Int) := (ri_frf Ch195 (d := 12) rfl rfl (by decide +kernel)).trans eh192_111_16
            clear eh192_111_16
            have eh195_111_18 : ri_at h195 111 18 = (cn.length : Int) := (ri_frf Ch195 (d := 12) rfl rfl (by decide +kernel)).trans eh192_111_18
            clear eh192_111_18
            have eh195_r1 : ri_at h195 119 (b + 1) = x130.toInt := (ri_frq Ch195 (k := 119) (d := 58) rfl rfl (by decide) (by decide +kernel)).trans eh192_r1
            clear eh192_r1
            have eh195_r14 : ri_at h195 119 (b + 14) = x191.toInt := (ri_frq Ch195 (k := 119) (d := 58) rfl rfl (by decide) (by decide +kernel)).trans eh192_r14
            clear eh192_r14
            have Zh195 := zR_fr Ch195 Zh192 (by decide +kernel)
            refine ex_ic oq_X12_gateLine_290 (m := 0) (by decide) (fun x196 hx196 => ?_)
            refine ex_isA oq_X12_gateLine_291 (fun L197 gL197_2 kL197 => ?_)
            have gL197_0 : cv_get L197 0 = some (cv_r 111) := kL197 0 _ (by decide) (fun q => absurd q (by decide)) G0
            have gL197_1 : cv_get L197 1 = some (cv_i x114) := kL197 1 _ (by decide) (fun _ => rfl) G1
            refine ex_al oq_X12_gateLine_292 gL197_0 ?_
            refine ex_cv oq_X12_gateLine_293 (by decide) Th195 (k := 111) (d := 12) (as := []) (stk := []) rfl rfl rfl rfl rfl rfl ⟨rfl, rfl⟩ (R := fun o => ∃ x : Int32, o = (some (cv_i x), h195) ∧ x.toInt = zhw (zk t n q4) (zw t n q4)) (rt_hasWord (t := t) (n := n) (p := q4) Th195 Zh195 (fun x q => ⟨x, rfl, q⟩)) (fun o ho => ?_)
            obtain ⟨x198, rfl, wx198⟩ := ho
            show cw_X _ _ _ _ _ [cv_i x198] h195
            refine ex_isA oq_X12_gateLine_296 (fun L199 gL199_3 kL199 => ?_)
            have gL199_2 : cv_get L199 2 = some (cv_i x196) := kL199 2 _ (by decide) (fun _ => rfl) gL197_2
            have gL199_0 : cv_get L199 0 = some (cv_r 111) := kL199 0 _ (by decide) (fun q => absurd q (by decide)) gL197_0
            have gL199_1 : cv_get L199 1 = some (cv_i x114) := kL199 1 _ (by decide) (fun q => absurd q (by decide)) gL197_1
            have hclh195 : ∀ k, k < cn.length → ri_at h195 123 (6 + k) = cn.getD k 0 := fun k hk => by rw [show ri_at h195 123 (6 + k) = ri_at h0 123 (6 + k) from ri_frr Fh195 (k := 123) (d := 62) rfl rfl (by decide +kernel)]; exact hcl k hk
            have hr : ∀ i, ri_at h195 118 i = ri_at h108 118 i := fun i => ((ri_frr Ch195 (k := 118) (d := 57) rfl rfl (by decide +kernel)).trans ((ri_ne wh192 (.inl (by decide))).trans ((ri_ne wh188 (.inl (by decide))).trans ((ri_ne wh184 (.inl (by decide))).trans ((ri_ne wh180 (.inl (by decide))).trans ((ri_ne wh176 (.inl (by decide))).trans ((ri_ne wh172 (.inl (by decide))).trans ((ri_ne wh168 (.inl (by decide))).trans ((ri_ne wh164 (.inl (by decide))).trans ((ri_ne wh160 (.inl (by decide))).trans ((ri_ne wh156 (.inl (by decide))).trans ((ri_ne wh152 (.inl (by decide))).trans ((ri_ne wh144 (.inl (by decide))).trans ((ri_ne wh140 (.inl (by decide))).trans ((ri_frr Ch135 (k := 118) (d := 57) rfl rfl (by decide +kernel)).trans ((ri_ne wh131 (.inl (by decide))).trans ((ri_frr Ch126 (k := 118) (d := 57) rfl rfl (by decide +kernel)).trans ((ri_ne wh122 (.inl (by decide))).trans (ri_frr Ch119 (k := 118) (d := 57) rfl rfl (by decide +kernel))))))))))))))))))))
            refine gl_lpK (h0 := h195) (t := t) (n := n) (b := b) (u := l.length) (g := x114) (hh := v3) (cn := cn) (S := zgp t n v3 cn 901 0 0 q4) (fun i hi => by rw [ht i hi, ← hA _ Fh195]) hn9 (fun i hi => by rw [hB _ Fh195]; exact hwr i hi) (by omega) (by omega) (by omega) hb (by omega) hc6 hclh195 (fun x h' b1 b2 bk b3 => ?_) 901 0 0 q4 h195 L199 x196 x198 (by omega) (by omega) rfl Th195 cw_Fr_refl zFK_0 Zh195 rfl rfl (by omega) (by omega) (by omega) (by omega) (by omega) (by omega) (by omega) wx198 gL199_0 gL199_1 gL199_2 gL199_3
            refine hQ x h' b1 (cw_Fr_tr Fh195 (cw_Fr_mono (by decide +kernel) b2)) (zFK_tr Kh195 bk) ?_
            rcases b3 with ⟨v, q, e1, e2, e3, e4, e5, e6, e7⟩ | ⟨f, a, e1, e2, e3, e4, e5⟩
            · have hr' : ∀ i, ri_at h' 118 i = ri_at h108 118 i := fun i => (ri_frr b2 (k := 118) (d := 57) rfl rfl (by decide +kernel)).trans (hr i)
              exact .inl ⟨_, _, (by unfold zgt; rw [if_neg (by omega), zb2_r e1_1, zb2_r e2_1, zb2_r e3_1, zb2_r e4_1, zb2_r e1]), e2, e3, e4, e5.trans eh195_111_4, e6.trans eh195_111_5, fun k hk => by rw [hr']; exact e1_7.1 k hk, by rw [hr']; exact e1_7.2, e7⟩
            · exact .inr ⟨_, _, (by unfold zgt; rw [if_neg (by omega), zb2_r e1_1, zb2_r e2_1, zb2_r e3_1, zb2_r e4_1, zb2_l e1]), e2, e3, e4, e5⟩
          · replace c136 : x134.toInt = 0 := by omega
            obtain ⟨fc5, fa5, e5_1, ax134, e5_3, e5_4, e5_5⟩ := zRe_no dx134 c136
            clear dx134
            refine ex_ic oq_X12_gateLine_108 (m := 0) (by decide) (fun x200 hx200 => ?_)
            exact ex_retb oq_X12_gateLine_109 rfl (by omega) (by omega) (hQ x200 h135 Th135 Fh135 Kh135 (.inr ⟨_, _, (by unfold zgt; rw [if_neg (by omega), zb2_r e1_1, zb2_r e2_1, zb2_r e3_1, zb2_l e5_1]), by omega, by omega, by omega, by omega⟩))
        · replace c127 : x125.toInt = 0 := by omega
          obtain ⟨fc6, fa6, e6_1, ax125, e6_3, e6_4, e6_5⟩ := zRe_no dx125 c127
          clear dx125
          refine ex_ic oq_X12_gateLine_82 (m := 0) (by decide) (fun x201 hx201 => ?_)
          exact ex_retb oq_X12_gateLine_83 rfl (by omega) (by omega) (hQ x201 h126 Th126 Fh126 Kh126 (.inr ⟨_, _, (by unfold zgt; rw [if_neg (by omega), zb2_r e1_1, zb2_r e2_1, zb2_l e6_1]), by omega, by omega, by omega, by omega⟩))
      · replace c120 : x118.toInt = 0 := by omega
        obtain ⟨fc7, fa7, e7_1, ax118, e7_3, e7_4, e7_5⟩ := zRe_no dx118 c120
        clear dx118
        refine ex_ic oq_X12_gateLine_59 (m := 0) (by decide) (fun x202 hx202 => ?_)
        exact ex_retb oq_X12_gateLine_60 rfl (by omega) (by omega) (hQ x202 h119 Th119 Fh119 Kh119 (.inr ⟨_, _, (by unfold zgt; rw [if_neg (by omega), zb2_r e1_1, zb2_l e7_1]), by omega, by omega, by omega, by omega⟩))
    · replace c109 : x107.toInt = 0 := by omega
      obtain ⟨fc8, fa8, e8_1, ax107, e8_3, e8_4, e8_5⟩ := zRe_no dx107 c109
      clear dx107
      refine ex_ic oq_X12_gateLine_34 (m := 0) (by decide) (fun x203 hx203 => ?_)
      exact ex_retb oq_X12_gateLine_35 rfl (by omega) (by omega) (hQ x203 h108 Th108 Fh108 Kh108 (.inr ⟨_, _, (by unfold zgt; rw [if_neg (by omega), zb2_l e8_1]), by omega, by omega, by omega, by omega⟩))
  · refine ex_al oq_X12_gateLine_8 rfl ?_
    refine ex_ic oq_X12_gateLine_9 (m := 2) (by decide) (fun x204 hx204 => ?_)
    refine ex_cv oq_X12_gateLine_10 (by decide) hT (k := 111) (d := 12) (as := [cv_i x204]) (stk := []) rfl rfl rfl rfl rfl rfl ⟨rfl, rfl⟩ (R := fun o => ∃ (x : Int32) (hb : cv_H), o = (some (cv_i x), hb) ∧ cw_T G hb ∧ cw_Fr cw_Ds cw_sh kk_X12_wrong.2.2.2.2.2.1 h0 hb ∧ x.toInt = 0 ∧ ri_at hb 111 4 = x204.toInt ∧ ri_at hb 111 5 = ri_at h0 111 10) (rt_wrong hT x204 (fun x hb b1 b2 b3 b4 b5 => ⟨x, hb, rfl, b1, b2, b3, b4, b5⟩)) (fun o ho => ?_)
    obtain ⟨x205, h206, rfl, Th206, Ch206, zh206, fh206, ph206⟩ := ho
    show cw_X _ _ _ _ _ [cv_i x205] h206
    have Fh206 : cw_Fr cw_Ds cw_sh mk_gz h0 h206 := cw_Fr_tr Fh0 (cw_Fr_mono (by decide +kernel) Ch206)
    have Kh206 := zFK_fr Ch206 (by decide +kernel) Kh0
    exact ex_retb oq_X12_gateLine_13 rfl (by omega) (by omega) (hQ x205 h206 Th206 Fh206 Kh206 (.inr ⟨_, _, (by unfold zgt; rw [if_pos (by omega)]), by omega, by omega, by omega, by decide⟩))
end TZ
