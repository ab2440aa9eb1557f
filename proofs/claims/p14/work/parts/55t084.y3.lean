/-! ===== parts of a gate, what they tell: the reference ===== -/
/-- a gate's told numbers, as they are read -/
def zKR (h : cv_H) (b u : Nat) (D : Nat → Int) : Prop := (∀ j, j < 14 → ri_at h 119 (b + j) = D j) ∧ ∀ j, j < 9 → ri_at h 120 (36 + 9 * u + j) = D (16 + j)
/-- those told before stay -/
def zKB (b u : Nat) (h h' : cv_H) : Prop := (∀ i, i < b → ri_at h' 119 i = ri_at h 119 i) ∧ ∀ i, i < 36 + 9 * u → ri_at h' 120 i = ri_at h 120 i
theorem zKB_0 {b u : Nat} {h : cv_H} : zKB b u h h := ⟨fun _ _ => rfl, fun _ _ => rfl⟩
theorem zKB_tr {b u : Nat} {h h' h'' : cv_H} (x : zKB b u h h') (y : zKB b u h' h'') : zKB b u h h'' := ⟨fun i hi => (y.1 i hi).trans (x.1 i hi), fun i hi => (y.2 i hi).trans (x.2 i hi)⟩
section TZ
variable {G : Int} {X : cv_X} {Q : cv_O → Prop} {t : Nat → Int}
set_option maxHeartbeats 8000000 in
theorem rt_hooksD {h0 : cv_H} {n p : Nat} (ht : ∀ i, i < n → t i = ri_at h0 112 i) (hn9 : n ≤ 900) (hT : cw_T G h0) (hwr : ∀ i, i < 177 → ri_at h0 113 i = pp_words.getD i 0) (hpn : p ≤ n) (hz : zR t n p h0) {b u : Nat} {g : Int32} (hg : g.toInt = b) (hb : b + 16 ≤ 128) (hu : u ≤ 3) (hgr : ri_at h0 111 16 = u) {hh : Int} (hg1 : ri_at h0 119 (b + 1) = hh) (hh2 : 24 ≤ hh ∧ hh ≤ 72) {D : Nat → Int} (hD : zKR h0 b u D) {v1 v2 v3 v4 : Int} {q1 q2 q3 q4 : Nat} (E1 : zn t n 0 hh p = .inr (v1, q1)) (E2 : zn t n (v1 + 1) hh q1 = .inr (v2, q2)) (E3 : zg t n 30 q2 = .inr (v3, q3)) (E4 : zg t n 30 q3 = .inr (v4, q4)) (hQ : ∀ (x : Int32) h', cw_T G h' → cw_Fr cw_Ds cw_sh mk_gt h0 h' → x.toInt = 1 → zKR h' b u (zgU (zgU (zgU (zgU D 3 v1) 4 v2) 5 v3) 6 v4) → zKB b u h0 h' → Q (some (cv_i x), h')) : cw_X X 181 Q 0 (cv_ent 0 [cv_r 111, cv_i g]) [] h0 := by
  have Fh0 : cw_Fr cw_Ds cw_sh mk_gt h0 h0 := cw_Fr_refl
  have zxl := zx_le (t := t) hpn
  obtain ⟨z1, z2, z3, z4, z5⟩ := id hz
  replace z5 := zhd_i z5
  have hA : ∀ h, cw_Fr cw_Ds cw_sh mk_gt h0 h → ∀ i, ri_at h 112 i = ri_at h0 112 i := fun h F i => ri_frr F (k := 112) (d := 51) rfl rfl (by decide +kernel)
  have hB : ∀ h, cw_Fr cw_Ds cw_sh mk_gt h0 h → ∀ i, ri_at h 113 i = ri_at h0 113 i := fun h F i => ri_frr F (k := 113) (d := 52) rfl rfl (by decide +kernel)
  have n1 := zn_rg E1
  have n2 := zn_rg E2
  have n3 := zg_rg (by omega) E3
  have n4 := zg_rg (by omega) E4
  refine ex_al oq_X12_hooksRead_0 rfl ?_
  refine ex_ic oq_X12_hooksRead_1 (m := 0) (by decide) (fun x101 hx101 => ?_)
  refine ex_al oq_X12_hooksRead_2 rfl ?_
  refine ex_gf oq_X12_hooksRead_3 hT (k := 111) (d := 12) rfl rfl (fr_gateHas hT) ?_
  refine ex_il oq_X12_hooksRead_6 rfl ?_
  refine ex_ic oq_X12_hooksRead_7 (m := 1) (by decide) (fun x102 hx102 => ?_)
  refine ex_add oq_X12_hooksRead_8 (by omega) (fun x103 hx103 => ?_)
  refine ex_iap oq_X12_hooksRead_9 hT (k := 119) (d := 58) (j := b + 1) rfl rfl (by omega) (by omega) (fun x104 hx104 => ?_)
  have hx104 := (hx104.symm.trans hg1 : x104.toInt = hh)
  refine ex_cv oq_X12_hooksRead_10 (by decide) hT (k := 111) (d := 12) (as := [cv_i x101, cv_i x104]) (stk := []) rfl rfl rfl rfl rfl rfl ⟨rfl, rfl⟩ (R := fun o => ∃ (x : Int32) (hb : cv_H), o = (some (cv_i x), hb) ∧ cw_T G hb ∧ cw_Fr cw_Ds cw_sh kk_X12_number.2.2.2.2.2.1 h0 hb ∧ zRe t n h0 hb x (zn t n x101.toInt x104.toInt p) (fun v => ri_at hb 111 11 = v)) (rt_number (t := t) (n := n) (p := p) (fun i hi => by rw [ht i hi, ← hA _ Fh0]) hn9 hT (fun i hi => by rw [hB _ Fh0]; exact hwr i hi) (by omega) hz x101 x104 (fun x hb b1 b2 b3 => ⟨x, hb, rfl, b1, b2, b3⟩)) (fun o ho => ?_)
  obtain ⟨x105, h106, rfl, Th106, Ch106, dx105⟩ := ho
  show cw_X _ _ _ _ _ [cv_i x105] h106
  have Fh106 : cw_Fr cw_Ds cw_sh mk_gt h0 h106 := cw_Fr_tr Fh0 (cw_Fr_mono (by decide +kernel) Ch106)
  rw [hx101, show x104.toInt = hh from by omega] at dx105
  rw [E1] at dx105
  obtain ⟨wx105, lx105, Zh106, Dh106⟩ := zRe_r dx105
  clear dx105
  have eh106_r1 : ri_at h106 119 (b + 1) = hh := (ri_frq Ch106 (k := 119) (d := 58) rfl rfl (by decide) (by decide +kernel)).trans hg1
  obtain ⟨yah106, ybh106, ych106, ydh106, -⟩ := id Zh106
  have zlh106 := zx_le (t := t) (n := n) (p := q1) (by omega)
  refine ex_if0 oq_X12_hooksRead_13 (t := 18) rfl rfl (fun (c107 : ¬ x105.toInt = 0) => ?_) (fun (c107 : ¬ (¬ x105.toInt = 0)) => ?_)
  · refine ex_al oq_X12_hooksRead_18 rfl ?_
    refine ex_gf oq_X12_hooksRead_19 Th106 (k := 111) (d := 12) rfl rfl (fr_gateHas Th106) ?_
    refine ex_il oq_X12_hooksRead_22 rfl ?_
    refine ex_ic oq_X12_hooksRead_23 (m := 3) (by decide) (fun x108 hx108 => ?_)
    refine ex_add oq_X12_hooksRead_24 (by omega) (fun x109 hx109 => ?_)
    refine ex_al oq_X12_hooksRead_25 rfl ?_
    obtain ⟨x110, ax110, rx110, lx110, ux110⟩ := fi_got Th106
    refine ex_gf oq_X12_hooksRead_26 Th106 (k := 111) (d := 12) rfl rfl ax110 ?_
    have rx110 := (rx110.symm.trans Dh106 : x110.toInt = v1)
    refine ex_iw oq_X12_hooksRead_29 Th106 (k := 119) (d := 58) (j := b + 3) rfl rfl (by omega) (by omega) (fun r hr => gh_get hr _ (cw_i32 _)) (fun h111 Th111 wh111 => ?_)
    have Fh111 : cw_Fr cw_Ds cw_sh mk_gt h0 h111 := cw_Fr_tr Fh106 (cw_Fr_wrr wh111 (k := 119) (d := 58) rfl rfl (by decide +kernel))
    have eh111_111_4 : ri_at h111 111 4 = ri_at h106 111 4 := ri_ne wh111 (.inl (by decide))
    have eh111_111_5 : ri_at h111 111 5 = ri_at h106 111 5 := ri_ne wh111 (.inl (by decide))
    have eh111_111_6 : ri_at h111 111 6 = (n : Int) := (ri_ne wh111 (.inl (by decide))).trans yah106
    have eh111_111_7 : ri_at h111 111 7 = ((zx t n q1 : Nat) : Int) := (ri_ne wh111 (.inl (by decide))).trans ych106
    have eh111_111_8 : ri_at h111 111 8 = zk t n q1 := (ri_ne wh111 (.inl (by decide))).trans ydh106
    have eh111_111_10 : ri_at h111 111 10 = ((za t n q1 : Nat) : Int) := (ri_ne wh111 (.inl (by decide))).trans ybh106
    have eh111_111_11 : ri_at h111 111 11 = v1 := (ri_ne wh111 (.inl (by decide))).trans Dh106
    have eh111_r1 : ri_at h111 119 (b + 1) = hh := (ri_ne wh111 (.inr (by omega))).trans eh106_r1
    clear eh106_r1
    have Zh111 := zR_wr wh111 Zh106 (.inl (by decide))
    refine ex_al oq_X12_hooksRead_30 rfl ?_
    refine ex_al oq_X12_hooksRead_31 rfl ?_
    obtain ⟨x112, ax112, rx112, lx112, ux112⟩ := fi_got Th111
    refine ex_gf oq_X12_hooksRead_32 Th111 (k := 111) (d := 12) rfl rfl ax112 ?_
    have rx112 := (rx112.symm.trans eh111_111_11 : x112.toInt = v1)
    refine ex_ic oq_X12_hooksRead_35 (m := 1) (by decide) (fun x113 hx113 => ?_)
    refine ex_add oq_X12_hooksRead_36 (by omega) (fun x114 hx114 => ?_)
    refine ex_al oq_X12_hooksRead_37 rfl ?_
    refine ex_gf oq_X12_hooksRead_38 Th111 (k := 111) (d := 12) rfl rfl (fr_gateHas Th111) ?_
    refine ex_il oq_X12_hooksRead_41 rfl ?_
    refine ex_ic oq_X12_hooksRead_42 (m := 1) (by decide) (fun x115 hx115 => ?_)
    refine ex_add oq_X12_hooksRead_43 (by omega) (fun x116 hx116 => ?_)
    refine ex_iap oq_X12_hooksRead_44 Th111 (k := 119) (d := 58) (j := b + 1) rfl rfl (by omega) (by omega) (fun x117 hx117 => ?_)
    have hx117 := (hx117.symm.trans eh111_r1 : x117.toInt = hh)
    refine ex_cv oq_X12_hooksRead_45 (by decide) Th111 (k := 111) (d := 12) (as := [cv_i x114, cv_i x117]) (stk := []) rfl rfl rfl rfl rfl rfl ⟨rfl, rfl⟩ (R := fun o => ∃ (x : Int32) (hb : cv_H), o = (some (cv_i x), hb) ∧ cw_T G hb ∧ cw_Fr cw_Ds cw_sh kk_X12_number.2.2.2.2.2.1 h111 hb ∧ zRe t n h111 hb x (zn t n x114.toInt x117.toInt q1) (fun v => ri_at hb 111 11 = v)) (rt_number (t := t) (n := n) (p := q1) (fun i hi => by rw [ht i hi, ← hA _ Fh111]) hn9 Th111 (fun i hi => by rw [hB _ Fh111]; exact hwr i hi) (by omega) Zh111 x114 x117 (fun x hb b1 b2 b3 => ⟨x, hb, rfl, b1, b2, b3⟩)) (fun o ho => ?_)
    obtain ⟨x118, h119, rfl, Th119, Ch119, dx118⟩ := ho
    show cw_X _ _ _ _ _ [cv_i x118] h119
    have Fh119 : cw_Fr cw_Ds cw_sh mk_gt h0 h119 := cw_Fr_tr Fh111 (cw_Fr_mono (by decide +kernel) Ch119)
    rw [show x114.toInt = v1 + 1 from by omega, show x117.toInt = hh from by omega] at dx118
    rw [E2] at dx118
    obtain ⟨wx118, lx118, Zh119, Dh119⟩ := zRe_r dx118
    clear dx118
    have eh119_r1 : ri_at h119 119 (b + 1) = hh := (ri_frq Ch119 (k := 119) (d := 58) rfl rfl (by decide) (by decide +kernel)).trans eh111_r1
    clear eh111_r1
    obtain ⟨yah119, ybh119, ych119, ydh119, -⟩ := id Zh119
    have zlh119 := zx_le (t := t) (n := n) (p := q2) (by omega)
    clear eh111_111_6 eh111_111_10 eh111_111_7 eh111_111_8
    refine ex_if0 oq_X12_hooksRead_48 (t := 53) rfl rfl (fun (c120 : ¬ x118.toInt = 0) => ?_) (fun (c120 : ¬ (¬ x118.toInt = 0)) => ?_)
    · refine ex_al oq_X12_hooksRead_53 rfl ?_
      refine ex_gf oq_X12_hooksRead_54 Th119 (k := 111) (d := 12) rfl rfl (fr_gateHas Th119) ?_
      refine ex_il oq_X12_hooksRead_57 rfl ?_
      refine ex_ic oq_X12_hooksRead_58 (m := 4) (by decide) (fun x121 hx121 => ?_)
      refine ex_add oq_X12_hooksRead_59 (by omega) (fun x122 hx122 => ?_)
      refine ex_al oq_X12_hooksRead_60 rfl ?_
      obtain ⟨x123, ax123, rx123, lx123, ux123⟩ := fi_got Th119
      refine ex_gf oq_X12_hooksRead_61 Th119 (k := 111) (d := 12) rfl rfl ax123 ?_
      have rx123 := (rx123.symm.trans Dh119 : x123.toInt = v2)
      refine ex_iw oq_X12_hooksRead_64 Th119 (k := 119) (d := 58) (j := b + 4) rfl rfl (by omega) (by omega) (fun r hr => gh_get hr _ (cw_i32 _)) (fun h124 Th124 wh124 => ?_)
      have Fh124 : cw_Fr cw_Ds cw_sh mk_gt h0 h124 := cw_Fr_tr Fh119 (cw_Fr_wrr wh124 (k := 119) (d := 58) rfl rfl (by decide +kernel))
      have eh124_111_4 : ri_at h124 111 4 = ri_at h119 111 4 := ri_ne wh124 (.inl (by decide))
      have eh124_111_5 : ri_at h124 111 5 = ri_at h119 111 5 := ri_ne wh124 (.inl (by decide))
      have eh124_111_6 : ri_at h124 111 6 = (n : Int) := (ri_ne wh124 (.inl (by decide))).trans yah119
      have eh124_111_7 : ri_at h124 111 7 = ((zx t n q2 : Nat) : Int) := (ri_ne wh124 (.inl (by decide))).trans ych119
      have eh124_111_8 : ri_at h124 111 8 = zk t n q2 := (ri_ne wh124 (.inl (by decide))).trans ydh119
      have eh124_111_10 : ri_at h124 111 10 = ((za t n q2 : Nat) : Int) := (ri_ne wh124 (.inl (by decide))).trans ybh119
      have eh124_111_11 : ri_at h124 111 11 = v2 := (ri_ne wh124 (.inl (by decide))).trans Dh119
      have eh124_r1 : ri_at h124 119 (b + 1) = hh := (ri_ne wh124 (.inr (by omega))).trans eh119_r1
      clear eh119_r1
      have Zh124 := zR_wr wh124 Zh119 (.inl (by decide))
      refine ex_al oq_X12_hooksRead_65 rfl ?_
      refine ex_bi oq_X12_hooksRead_66 (m := 30) (by decide) (fun x125 hx125 => ?_)
      refine ex_cv oq_X12_hooksRead_68 (by decide) Th124 (k := 111) (d := 12) (as := [cv_i x125]) (stk := []) rfl rfl rfl rfl rfl rfl ⟨rfl, rfl⟩ (R := fun o => ∃ (x : Int32) (hb : cv_H), o = (some (cv_i x), hb) ∧ cw_T G hb ∧ cw_Fr cw_Ds cw_sh kk_X12_signed.2.2.2.2.2.1 h124 hb ∧ zRe t n h124 hb x (zg t n x125.toInt q2) (fun v => ri_at hb 111 11 = v)) (rt_signed (t := t) (n := n) (p := q2) (fun i hi => by rw [ht i hi, ← hA _ Fh124]) hn9 Th124 (fun i hi => by rw [hB _ Fh124]; exact hwr i hi) (by omega) Zh124 x125 (by omega) (fun x hb b1 b2 b3 => ⟨x, hb, rfl, b1, b2, b3⟩)) (fun o ho => ?_)
      obtain ⟨x126, h127, rfl, Th127, Ch127, dx126⟩ := ho
      show cw_X _ _ _ _ _ [cv_i x126] h127
      have Fh127 : cw_Fr cw_Ds cw_sh mk_gt h0 h127 := cw_Fr_tr Fh124 (cw_Fr_mono (by decide +kernel) Ch127)
      rw [hx125] at dx126
      rw [E3] at dx126
      obtain ⟨wx126, lx126, Zh127, Dh127⟩ := zRe_r dx126
      clear dx126
      have eh127_r1 : ri_at h127 119 (b + 1) = hh := (ri_frq Ch127 (k := 119) (d := 58) rfl rfl (by decide) (by decide +kernel)).trans eh124_r1
      clear eh124_r1
      obtain ⟨yah127, ybh127, ych127, ydh127, -⟩ := id Zh127
      have zlh127 := zx_le (t := t) (n := n) (p := q3) (by omega)
      clear eh124_111_6 eh124_111_10 eh124_111_7 eh124_111_8
      refine ex_if0 oq_X12_hooksRead_71 (t := 76) rfl rfl (fun (c128 : ¬ x126.toInt = 0) => ?_) (fun (c128 : ¬ (¬ x126.toInt = 0)) => ?_)
      · refine ex_al oq_X12_hooksRead_76 rfl ?_
        refine ex_gf oq_X12_hooksRead_77 Th127 (k := 111) (d := 12) rfl rfl (fr_gateHas Th127) ?_
        refine ex_il oq_X12_hooksRead_80 rfl ?_
        refine ex_ic oq_X12_hooksRead_81 (m := 5) (by decide) (fun x129 hx129 => ?_)
        refine ex_add oq_X12_hooksRead_82 (by omega) (fun x130 hx130 => ?_)
        refine ex_al oq_X12_hooksRead_83 rfl ?_
        obtain ⟨x131, ax131, rx131, lx131, ux131⟩ := fi_got Th127
        refine ex_gf oq_X12_hooksRead_84 Th127 (k := 111) (d := 12) rfl rfl ax131 ?_
        have rx131 := (rx131.symm.trans Dh127 : x131.toInt = v3)
        refine ex_iw oq_X12_hooksRead_87 Th127 (k := 119) (d := 58) (j := b + 5) rfl rfl (by omega) (by omega) (fun r hr => gh_get hr _ (cw_i32 _)) (fun h132 Th132 wh132 => ?_)
        have Fh132 : cw_Fr cw_Ds cw_sh mk_gt h0 h132 := cw_Fr_tr Fh127 (cw_Fr_wrr wh132 (k := 119) (d := 58) rfl rfl (by decide +kernel))
        have eh132_111_4 : ri_at h132 111 4 = ri_at h127 111 4 := ri_ne wh132 (.inl (by decide))
        have eh132_111_5 : ri_at h132 111 5 = ri_at h127 111 5 := ri_ne wh132 (.inl (by decide))
        have eh132_111_6 : ri_at h132 111 6 = (n : Int) := (ri_ne wh132 (.inl (by decide))).trans yah127
        have eh132_111_7 : ri_at h132 111 7 = ((zx t n q3 : Nat) : Int) := (ri_ne wh132 (.inl (by decide))).trans ych127
        have eh132_111_8 : ri_at h132 111 8 = zk t n q3 := (ri_ne wh132 (.inl (by decide))).trans ydh127
        have eh132_111_10 : ri_at h132 111 10 = ((za t n q3 : Nat) : Int) := (ri_ne wh132 (.inl (by decide))).trans ybh127
        have eh132_111_11 : ri_at h132 111 11 = v3 := (ri_ne wh132 (.inl (by decide))).trans Dh127
        have eh132_r1 : ri_at h132 119 (b + 1) = hh := (ri_ne wh132 (.inr (by omega))).trans eh127_r1
        clear eh127_r1
        have Zh132 := zR_wr wh132 Zh127 (.inl (by decide))
        refine ex_al oq_X12_hooksRead_88 rfl ?_
        refine ex_bi oq_X12_hooksRead_89 (m := 30) (by decide) (fun x133 hx133 => ?_)
        refine ex_cv oq_X12_hooksRead_91 (by decide) Th132 (k := 111) (d := 12) (as := [cv_i x133]) (stk := []) rfl rfl rfl rfl rfl rfl ⟨rfl, rfl⟩ (R := fun o => ∃ (x : Int32) (hb : cv_H), o = (some (cv_i x), hb) ∧ cw_T G hb ∧ cw_Fr cw_Ds cw_sh kk_X12_signed.2.2.2.2.2.1 h132 hb ∧ zRe t n h132 hb x (zg t n x133.toInt q3) (fun v => ri_at hb 111 11 = v)) (rt_signed (t := t) (n := n) (p := q3) (fun i hi => by rw [ht i hi, ← hA _ Fh132]) hn9 Th132 (fun i hi => by rw [hB _ Fh132]; exact hwr i hi) (by omega) Zh132 x133 (by omega) (fun x hb b1 b2 b3 => ⟨x, hb, rfl, b1, b2, b3⟩)) (fun o ho => ?_)
        obtain ⟨x134, h135, rfl, Th135, Ch135, dx134⟩ := ho
        show cw_X _ _ _ _ _ [cv_i x134] h135
        have Fh135 : cw_Fr cw_Ds cw_sh mk_gt h0 h135 := cw_Fr_tr Fh132 (cw_Fr_mono (by decide +kernel) Ch135)
        rw [hx133] at dx134
        rw [E4] at dx134
        obtain ⟨wx134, lx134, Zh135, Dh135⟩ := zRe_r dx134
        clear dx134
        have eh135_r1 : ri_at h135 119 (b + 1) = hh := (ri_frq Ch135 (k := 119) (d := 58) rfl rfl (by decide) (by decide +kernel)).trans eh132_r1
        clear eh132_r1
        obtain ⟨yah135, ybh135, ych135, ydh135, -⟩ := id Zh135
        have zlh135 := zx_le (t := t) (n := n) (p := q4) (by omega)
        clear eh132_111_6 eh132_111_10 eh132_111_7 eh132_111_8
        refine ex_if0 oq_X12_hooksRead_94 (t := 99) rfl rfl (fun (c136 : ¬ x134.toInt = 0) => ?_) (fun (c136 : ¬ (¬ x134.toInt = 0)) => ?_)
        · refine ex_al oq_X12_hooksRead_99 rfl ?_
          refine ex_gf oq_X12_hooksRead_100 Th135 (k := 111) (d := 12) rfl rfl (fr_gateHas Th135) ?_
          refine ex_il oq_X12_hooksRead_103 rfl ?_
          refine ex_bi oq_X12_hooksRead_104 (m := 6) (by decide) (fun x137 hx137 => ?_)
          refine ex_add oq_X12_hooksRead_106 (by omega) (fun x138 hx138 => ?_)
          refine ex_al oq_X12_hooksRead_107 rfl ?_
          obtain ⟨x139, ax139, rx139, lx139, ux139⟩ := fi_got Th135
          refine ex_gf oq_X12_hooksRead_108 Th135 (k := 111) (d := 12) rfl rfl ax139 ?_
          have rx139 := (rx139.symm.trans Dh135 : x139.toInt = v4)
          refine ex_iw oq_X12_hooksRead_111 Th135 (k := 119) (d := 58) (j := b + 6) rfl rfl (by omega) (by omega) (fun r hr => gh_get hr _ (cw_i32 _)) (fun h140 Th140 wh140 => ?_)
          have Fh140 : cw_Fr cw_Ds cw_sh mk_gt h0 h140 := cw_Fr_tr Fh135 (cw_Fr_wrr wh140 (k := 119) (d := 58) rfl rfl (by decide +kernel))
          have eh140_111_4 : ri_at h140 111 4 = ri_at h135 111 4 := ri_ne wh140 (.inl (by decide))
          have eh140_111_5 : ri_at h140 111 5 = ri_at h135 111 5 := ri_ne wh140 (.inl (by decide))
          have eh140_111_6 : ri_at h140 111 6 = (n : Int) := (ri_ne wh140 (.inl (by decide))).trans yah135
          have eh140_111_7 : ri_at h140 111 7 = ((zx t n q4 : Nat) : Int) := (ri_ne wh140 (.inl (by decide))).trans ych135
          have eh140_111_8 : ri_at h140 111 8 = zk t n q4 := (ri_ne wh140 (.inl (by decide))).trans ydh135
          have eh140_111_10 : ri_at h140 111 10 = ((za t n q4 : Nat) : Int) := (ri_ne wh140 (.inl (by decide))).trans ybh135
          have eh140_111_11 : ri_at h140 111 11 = v4 := (ri_ne wh140 (.inl (by decide))).trans Dh135
          have eh140_r1 : ri_at h140 119 (b + 1) = hh := (ri_ne wh140 (.inr (by omega))).trans eh135_r1
          clear eh135_r1
          have Zh140 := zR_wr wh140 Zh135 (.inl (by decide))
          refine ex_ic oq_X12_hooksRead_112 (m := 1) (by decide) (fun x141 hx141 => ?_)
          exact ex_retb oq_X12_hooksRead_113 rfl (by omega) (by omega) (hQ x141 h140 Th140 Fh140 (by omega) ⟨fun j hj => match j, hj with | 0, _ => (((ri_ne wh140 (.inr (by omega))).trans ((ri_frq Ch135 (k := 119) (d := 58) rfl rfl (by decide) (by decide +kernel)).trans ((ri_ne wh132 (.inr (by omega))).trans ((ri_frq Ch127 (k := 119) (d := 58) rfl rfl (by decide) (by decide +kernel)).trans ((ri_ne wh124 (.inr (by omega))).trans ((ri_frq Ch119 (k := 119) (d := 58) rfl rfl (by decide) (by decide +kernel)).trans ((ri_ne wh111 (.inr (by omega))).trans (ri_frq Ch106 (k := 119) (d := 58) rfl rfl (by decide) (by decide +kernel)))))))))).trans ((hD.1 0 (by decide)).trans (by rw [zgU_ne (by decide), zgU_ne (by decide), zgU_ne (by decide), zgU_ne (by decide)])) | 1, _ => (((ri_ne wh140 (.inr (by omega))).trans ((ri_frq Ch135 (k := 119) (d := 58) rfl rfl (by decide) (by decide +kernel)).trans ((ri_ne wh132 (.inr (by omega))).trans ((ri_frq Ch127 (k := 119) (d := 58) rfl rfl (by decide) (by decide +kernel)).trans ((ri_ne wh124 (.inr (by omega))).trans ((ri_frq Ch119 (k := 119) (d := 58) rfl rfl (by decide) (by decide +kernel)).trans ((ri_ne wh111 (.inr (by omega))).trans (ri_frq Ch106 (k := 119) (d := 58) rfl rfl (by decide) (by decide +kernel)))))))))).trans ((hD.1 1 (by decide)).trans (by rw [zgU_ne (by decide), zgU_ne (by decide), zgU_ne (by decide), zgU_ne (by decide)])) | 2, _ => (((ri_ne wh140 (.inr (by omega))).trans ((ri_frq Ch135 (k := 119) (d := 58) rfl rfl (by decide) (by decide +kernel)).trans ((ri_ne wh132 (.inr (by omega))).trans ((ri_frq Ch127 (k := 119) (d := 58) rfl rfl (by decide) (by decide +kernel)).trans ((ri_ne wh124 (.inr (by omega))).trans ((ri_frq Ch119 (k := 119) (d := 58) rfl rfl (by decide) (by decide +kernel)).trans ((ri_ne wh111 (.inr (by omega))).trans (ri_frq Ch106 (k := 119) (d := 58) rfl rfl (by decide) (by decide +kernel)))))))))).trans ((hD.1 2 (by decide)).trans (by rw [zgU_ne (by decide), zgU_ne (by decide), zgU_ne (by decide), zgU_ne (by decide)])) | 3, _ => (((ri_ne wh140 (.inr (by omega))).trans ((ri_frq Ch135 (k := 119) (d := 58) rfl rfl (by decide) (by decide +kernel)).trans ((ri_ne wh132 (.inr (by omega))).trans ((ri_frq Ch127 (k := 119) (d := 58) rfl rfl (by decide) (by decide +kernel)).trans ((ri_ne wh124 (.inr (by omega))).trans ((ri_frq Ch119 (k := 119) (d := 58) rfl rfl (by decide) (by decide +kernel)).trans (ri_self wh111)))))))).trans ((show x110.toInt = v1 from by omega).trans (by rw [zgU_ne (by decide), zgU_ne (by decide), zgU_ne (by decide), zgU_eq])) | 4, _ => (((ri_ne wh140 (.inr (by omega))).trans ((ri_frq Ch135 (k := 119) (d := 58) rfl rfl (by decide) (by decide +kernel)).trans ((ri_ne wh132 (.inr (by omega))).trans ((ri_frq Ch127 (k := 119) (d := 58) rfl rfl (by decide) (by decide +kernel)).trans (ri_self wh124)))))).trans ((show x123.toInt = v2 from by omega).trans (by rw [zgU_ne (by decide), zgU_ne (by decide), zgU_eq])) | 5, _ => (((ri_ne wh140 (.inr (by omega))).trans ((ri_frq Ch135 (k := 119) (d := 58) rfl rfl (by decide) (by decide +kernel)).trans (ri_self wh132)))).trans ((show x131.toInt = v3 from by omega).trans (by rw [zgU_ne (by decide), zgU_eq])) | 6, _ => ((ri_self wh140)).trans ((show x139.toInt = v4 from by omega).trans (by rw [zgU_eq])) | 7, _ => (((ri_ne wh140 (.inr (by omega))).trans ((ri_frq Ch135 (k := 119) (d := 58) rfl rfl (by decide) (by decide +kernel)).trans ((ri_ne wh132 (.inr (by omega))).trans ((ri_frq Ch127 (k := 119) (d := 58) rfl rfl (by decide) (by decide +kernel)).trans ((ri_ne wh124 (.inr (by omega))).trans ((ri_frq Ch119 (k := 119) (d := 58) rfl rfl (by decide) (by decide +kernel)).trans ((ri_ne wh111 (.inr (by omega))).trans (ri_frq Ch106 (k := 119) (d := 58) rfl rfl (by decide) (by decide +kernel)))))))))).trans ((hD.1 7 (by decide)).trans (by rw [zgU_ne (by decide), zgU_ne (by decide), zgU_ne (by decide), zgU_ne (by decide)])) | 8, _ => (((ri_ne wh140 (.inr (by omega))).trans ((ri_frq Ch135 (k := 119) (d := 58) rfl rfl (by decide) (by decide +kernel)).trans ((ri_ne wh132 (.inr (by omega))).trans ((ri_frq Ch127 (k := 119) (d := 58) rfl rfl (by decide) (by decide +kernel)).trans ((ri_ne wh124 (.inr (by omega))).trans ((ri_frq Ch119 (k := 119) (d := 58) rfl rfl (by decide) (by decide +kernel)).trans ((ri_ne wh111 (.inr (by omega))).trans (ri_frq Ch106 (k := 119) (d := 58) rfl rfl (by decide) (by decide +kernel)))))))))).trans ((hD.1 8 (by decide)).trans (by rw [zgU_ne (by decide), zgU_ne (by decide), zgU_ne (by decide), zgU_ne (by decide)])) | 9, _ => (((ri_ne wh140 (.inr (by omega))).trans ((ri_frq Ch135 (k := 119) (d := 58) rfl rfl (by decide) (by decide +kernel)).trans ((ri_ne wh132 (.inr (by omega))).trans ((ri_frq Ch127 (k := 119) (d := 58) rfl rfl (by decide) (by decide +kernel)).trans ((ri_ne wh124 (.inr (by omega))).trans ((ri_frq Ch119 (k := 119) (d := 58) rfl rfl (by decide) (by decide +kernel)).trans ((ri_ne wh111 (.inr (by omega))).trans (ri_frq Ch106 (k := 119) (d := 58) rfl rfl (by decide) (by decide +kernel)))))))))).trans ((hD.1 9 (by decide)).trans (by rw [zgU_ne (by decide), zgU_ne (by decide), zgU_ne (by decide), zgU_ne (by decide)])) | 10, _ => (((ri_ne wh140 (.inr (by omega))).trans ((ri_frq Ch135 (k := 119) (d := 58) rfl rfl (by decide) (by decide +kernel)).trans ((ri_ne wh132 (.inr (by omega))).trans ((ri_frq Ch127 (k := 119) (d := 58) rfl rfl (by decide) (by decide +kernel)).trans ((ri_ne wh124 (.inr (by omega))).trans ((ri_frq Ch119 (k := 119) (d := 58) rfl rfl (by decide) (by decide +kernel)).trans ((ri_ne wh111 (.inr (by omega))).trans (ri_frq Ch106 (k := 119) (d := 58) rfl rfl (by decide) (by decide +kernel)))))))))).trans ((hD.1 10 (by decide)).trans (by rw [zgU_ne (by decide), zgU_ne (by decide), zgU_ne (by decide), zgU_ne (by decide)])) | 11, _ => (((ri_ne wh140 (.inr (by omega))).trans ((ri_frq Ch135 (k := 119) (d := 58) rfl rfl (by decide) (by decide +kernel)).trans ((ri_ne wh132 (.inr (by omega))).trans ((ri_frq Ch127 (k := 119) (d := 58) rfl rfl (by decide) (by decide +kernel)).trans ((ri_ne wh124 (.inr (by omega))).trans ((ri_frq Ch119 (k := 119) (d := 58) rfl rfl (by decide) (by decide +kernel)).trans ((ri_ne wh111 (.inr (by omega))).trans (ri_frq Ch106 (k := 119) (d := 58) rfl rfl (by decide) (by decide +kernel)))))))))).trans ((hD.1 11 (by decide)).trans (by rw [zgU_ne (by decide), zgU_ne (by decide), zgU_ne (by decide), zgU_ne (by decide)])) | 12, _ => (((ri_ne wh140 (.inr (by omega))).trans ((ri_frq Ch135 (k := 119) (d := 58) rfl rfl (by decide) (by decide +kernel)).trans ((ri_ne wh132 (.inr (by omega))).trans ((ri_frq Ch127 (k := 119) (d := 58) rfl rfl (by decide) (by decide +kernel)).trans ((ri_ne wh124 (.inr (by omega))).trans ((ri_frq Ch119 (k := 119) (d := 58) rfl rfl (by decide) (by decide +kernel)).trans ((ri_ne wh111 (.inr (by omega))).trans (ri_frq Ch106 (k := 119) (d := 58) rfl rfl (by decide) (by decide +kernel)))))))))).trans ((hD.1 12 (by decide)).trans (by rw [zgU_ne (by decide), zgU_ne (by decide), zgU_ne (by decide), zgU_ne (by decide)])) | 13, _ => (((ri_ne wh140 (.inr (by omega))).trans ((ri_frq Ch135 (k := 119) (d := 58) rfl rfl (by decide) (by decide +kernel)).trans ((ri_ne wh132 (.inr (by omega))).trans ((ri_frq Ch127 (k := 119) (d := 58) rfl rfl (by decide) (by decide +kernel)).trans ((ri_ne wh124 (.inr (by omega))).trans ((ri_frq Ch119 (k := 119) (d := 58) rfl rfl (by decide) (by decide +kernel)).trans ((ri_ne wh111 (.inr (by omega))).trans (ri_frq Ch106 (k := 119) (d := 58) rfl rfl (by decide) (by decide +kernel)))))))))).trans ((hD.1 13 (by decide)).trans (by rw [zgU_ne (by decide), zgU_ne (by decide), zgU_ne (by decide), zgU_ne (by decide)])) | j + 14, hj => absurd hj (by omega), fun j hj => (((ri_ne wh140 (.inl (by decide))).trans ((ri_frr Ch135 (k := 120) (d := 59) rfl rfl (by decide +kernel)).trans ((ri_ne wh132 (.inl (by decide))).trans ((ri_frr Ch127 (k := 120) (d := 59) rfl rfl (by decide +kernel)).trans ((ri_ne wh124 (.inl (by decide))).trans ((ri_frr Ch119 (k := 120) (d := 59) rfl rfl (by decide +kernel)).trans ((ri_ne wh111 (.inl (by decide))).trans (ri_frr Ch106 (k := 120) (d := 59) rfl rfl (by decide +kernel)))))))))).trans ((hD.2 j hj).trans (by rw [zgU_ne (by omega), zgU_ne (by omega), zgU_ne (by omega), zgU_ne (by omega)]))⟩ ⟨fun i hi => ((ri_ne wh140 (.inr (by omega))).trans ((ri_frq Ch135 (k := 119) (d := 58) rfl rfl (by decide) (by decide +kernel)).trans ((ri_ne wh132 (.inr (by omega))).trans ((ri_frq Ch127 (k := 119) (d := 58) rfl rfl (by decide) (by decide +kernel)).trans ((ri_ne wh124 (.inr (by omega))).trans ((ri_frq Ch119 (k := 119) (d := 58) rfl rfl (by decide) (by decide +kernel)).trans ((ri_ne wh111 (.inr (by omega))).trans (ri_frq Ch106 (k := 119) (d := 58) rfl rfl (by decide) (by decide +kernel))))))))), fun i hi => ((ri_ne wh140 (.inl (by decide))).trans ((ri_frr Ch135 (k := 120) (d := 59) rfl rfl (by decide +kernel)).trans ((ri_ne wh132 (.inl (by decide))).trans ((ri_frr Ch127 (k := 120) (d := 59) rfl rfl (by decide +kernel)).trans ((ri_ne wh124 (.inl (by decide))).trans ((ri_frr Ch119 (k := 120) (d := 59) rfl rfl (by decide +kernel)).trans ((ri_ne wh111 (.inl (by decide))).trans (ri_frr Ch106 (k := 120) (d := 59) rfl rfl (by decide +kernel)))))))))⟩)
        · exfalso; omega
      · exfalso; omega
    · exfalso; omega
  · exfalso; omega
set_option maxHeartbeats 8000000 in
theorem rt_hasD1 {h0 : cv_H} {n p : Nat} (ht : ∀ i, i < n → t i = ri_at h0 112 i) (hn9 : n ≤ 900) (hT : cw_T G h0) (hwr : ∀ i, i < 177 → ri_at h0 113 i = pp_words.getD i 0) (hpn : p ≤ n) (hz : zR t n p h0) {b u : Nat} {g : Int32} (hg : g.toInt = b) (hb : b + 16 ≤ 128) (hu : u ≤ 3) (hgr : ri_at h0 111 16 = u) {hh : Int} (hg1 : ri_at h0 119 (b + 1) = hh) (hh2 : 24 ≤ hh ∧ hh ≤ 72) {D : Nat → Int} (hD : zKR h0 b u D) {w : Int32} (hw : w.toInt = 1) {v1 : Int} {vs : List Int} {q1 q2 : Nat} (E1 : zn t n 12 60 p = .inr (v1, q1)) (E2 : zns t n 3 14 1 q1 = .inr (vs, q2)) (hQ : ∀ (x : Int32) h', cw_T G h' → cw_Fr cw_Ds cw_sh mk_gt h0 h' → x.toInt = 1 → zKR h' b u (zgU (zgU D 7 v1) 8 (vs.getD 0 0)) → zKB b u h0 h' → Q (some (cv_i x), h')) : cw_X X 180 Q 0 (cv_ent 0 [cv_r 111, cv_i g, cv_i w]) [] h0 := by
  have Fh0 : cw_Fr cw_Ds cw_sh mk_gt h0 h0 := cw_Fr_refl
  have zxl := zx_le (t := t) hpn
  obtain ⟨z1, z2, z3, z4, z5⟩ := id hz
  replace z5 := zhd_i z5
  have hA : ∀ h, cw_Fr cw_Ds cw_sh mk_gt h0 h → ∀ i, ri_at h 112 i = ri_at h0 112 i := fun h F i => ri_frr F (k := 112) (d := 51) rfl rfl (by decide +kernel)
  have hB : ∀ h, cw_Fr cw_Ds cw_sh mk_gt h0 h → ∀ i, ri_at h 113 i = ri_at h0 113 i := fun h F i => ri_frr F (k := 113) (d := 52) rfl rfl (by decide +kernel)
  refine ex_il oq_X12_hasRead_0 rfl ?_
  refine ex_tsw oq_X12_hasRead_1 rfl (fun c101 => ⟨rfl, ?_⟩) (fun i hi c101 => ?_)
  · exfalso; omega
  · match i, hi, c101 with
    | 0, _, c101 => exfalso; omega
    | 1, _, c101 =>
      refine ⟨rfl, ?_⟩
      show cw_X _ _ _ 50 _ _ _
      refine ex_al oq_X12_hasRead_50 rfl ?_
      refine ex_bi oq_X12_hasRead_51 (m := 12) (by decide) (fun x102 hx102 => ?_)
      refine ex_bi oq_X12_hasRead_53 (m := 60) (by decide) (fun x103 hx103 => ?_)
      refine ex_cv oq_X12_hasRead_55 (by decide) hT (k := 111) (d := 12) (as := [cv_i x102, cv_i x103]) (stk := []) rfl rfl rfl rfl rfl rfl ⟨rfl, rfl⟩ (R := fun o => ∃ (x : Int32) (hb : cv_H), o = (some (cv_i x), hb) ∧ cw_T G hb ∧ cw_Fr cw_Ds cw_sh kk_X12_number.2.2.2.2.2.1 h0 hb ∧ zRe t n h0 hb x (zn t n x102.toInt x103.toInt p) (fun v => ri_at hb 111 11 = v)) (rt_number (t := t) (n := n) (p := p) (fun i hi => by rw [ht i hi, ← hA _ Fh0]) hn9 hT (fun i hi => by rw [hB _ Fh0]; exact hwr i hi) (by omega) hz x102 x103 (fun x hb b1 b2 b3 => ⟨x, hb, rfl, b1, b2, b3⟩)) (fun o ho => ?_)
      obtain ⟨x104, h105, rfl, Th105, Ch105, dx104⟩ := ho
      show cw_X _ _ _ _ _ [cv_i x104] h105
      have Fh105 : cw_Fr cw_Ds cw_sh mk_gt h0 h105 := cw_Fr_tr Fh0 (cw_Fr_mono (by decide +kernel) Ch105)
      rw [hx102, hx103] at dx104
      rw [E1] at dx104
      obtain ⟨wx104, lx104, Zh105, Dh105⟩ := zRe_r dx104
      clear dx104
      have eh105_111_16 : ri_at h105 111 16 = (u : Int) := (ri_frf Ch105 (d := 12) rfl rfl (by decide +kernel)).trans hgr
      have eh105_r1 : ri_at h105 119 (b + 1) = hh := (ri_frq Ch105 (k := 119) (d := 58) rfl rfl (by decide) (by decide +kernel)).trans hg1
      obtain ⟨yah105, ybh105, ych105, ydh105, -⟩ := id Zh105
      have zlh105 := zx_le (t := t) (n := n) (p := q1) (by omega)
      refine ex_if0 oq_X12_hasRead_58 (t := 63) rfl rfl (fun (c106 : ¬ x104.toInt = 0) => ?_) (fun (c106 : ¬ (¬ x104.toInt = 0)) => ?_)
      · refine ex_al oq_X12_hasRead_63 rfl ?_
        refine ex_gf oq_X12_hasRead_64 Th105 (k := 111) (d := 12) rfl rfl (fr_gateHas Th105) ?_
        refine ex_il oq_X12_hasRead_67 rfl ?_
        refine ex_bi oq_X12_hasRead_68 (m := 7) (by decide) (fun x107 hx107 => ?_)
        refine ex_add oq_X12_hasRead_70 (by omega) (fun x108 hx108 => ?_)
        refine ex_al oq_X12_hasRead_71 rfl ?_
        obtain ⟨x109, ax109, rx109, lx109, ux109⟩ := fi_got Th105
        refine ex_gf oq_X12_hasRead_72 Th105 (k := 111) (d := 12) rfl rfl ax109 ?_
        have rx109 := (rx109.symm.trans Dh105 : x109.toInt = v1)
        refine ex_iw oq_X12_hasRead_75 Th105 (k := 119) (d := 58) (j := b + 7) rfl rfl (by omega) (by omega) (fun r hr => gh_get hr _ (cw_i32 _)) (fun h110 Th110 wh110 => ?_)
        have Fh110 : cw_Fr cw_Ds cw_sh mk_gt h0 h110 := cw_Fr_tr Fh105 (cw_Fr_wrr wh110 (k := 119) (d := 58) rfl rfl (by decide +kernel))
        have eh110_111_4 : ri_at h110 111 4 = ri_at h105 111 4 := ri_ne wh110 (.inl (by decide))
        have eh110_111_5 : ri_at h110 111 5 = ri_at h105 111 5 := ri_ne wh110 (.inl (by decide))
        have eh110_111_6 : ri_at h110 111 6 = (n : Int) := (ri_ne wh110 (.inl (by decide))).trans yah105
        have eh110_111_7 : ri_at h110 111 7 = ((zx t n q1 : Nat) : Int) := (ri_ne wh110 (.inl (by decide))).trans ych105
        have eh110_111_8 : ri_at h110 111 8 = zk t n q1 := (ri_ne wh110 (.inl (by decide))).trans ydh105
        have eh110_111_10 : ri_at h110 111 10 = ((za t n q1 : Nat) : Int) := (ri_ne wh110 (.inl (by decide))).trans ybh105
        have eh110_111_11 : ri_at h110 111 11 = v1 := (ri_ne wh110 (.inl (by decide))).trans Dh105
        have eh110_111_16 : ri_at h110 111 16 = (u : Int) := (ri_ne wh110 (.inl (by decide))).trans eh105_111_16
        clear eh105_111_16
        have eh110_r1 : ri_at h110 119 (b + 1) = hh := (ri_ne wh110 (.inr (by omega))).trans eh105_r1
        clear eh105_r1
        have Zh110 := zR_wr wh110 Zh105 (.inl (by decide))
        refine ex_al oq_X12_hasRead_76 rfl ?_
        refine ex_al oq_X12_hasRead_77 rfl ?_
        refine ex_gf oq_X12_hasRead_78 Th110 (k := 111) (d := 12) rfl rfl (fr_gateHas Th110) ?_
        refine ex_il oq_X12_hasRead_81 rfl ?_
        refine ex_bi oq_X12_hasRead_82 (m := 8) (by decide) (fun x111 hx111 => ?_)
        refine ex_add oq_X12_hasRead_84 (by omega) (fun x112 hx112 => ?_)
        refine ex_ic oq_X12_hasRead_85 (m := 1) (by decide) (fun x113 hx113 => ?_)
        refine ex_ic oq_X12_hasRead_86 (m := 3) (by decide) (fun x114 hx114 => ?_)
        refine ex_bi oq_X12_hasRead_87 (m := 14) (by decide) (fun x115 hx115 => ?_)
        refine ex_cv oq_X12_hasRead_89 (by decide) Th110 (k := 111) (d := 12) (as := [cv_r 119, cv_i x112, cv_i x113, cv_i x114, cv_i x115]) (stk := []) rfl rfl rfl rfl rfl rfl ⟨rfl, rfl⟩ (R := fun o => ∃ (x : Int32) (hb : cv_H), o = (some (cv_i x), hb) ∧ cw_T G hb ∧ cw_Fr cw_Ds cw_sh mk_gt h110 hb ∧ zFS h110 hb ∧ zRe t n h110 hb x (zns t n x114.toInt x115.toInt 1 q1) (fun vs => (∀ i, i < 1 → ri_at hb 119 (b + 8 + i) = vs.getD i 0) ∧ ∀ i, (i < b + 8 ∨ b + 8 + 1 ≤ i) → ri_at hb 119 i = ri_at h110 119 i)) (rt_numbersHS (t := t) (n := n) (p := q1) (f := b + 8) (m := 1) Th110 (by omega) Zh110 (fun i hi => by rw [ht i hi, ← hA _ Fh110]) hn9 (fun i hi => by rw [hB _ Fh110]; exact hwr i hi) (by omega) (by omega) (by omega) (by omega) (by omega) (fun x hb b1 b2 bs b3 => ⟨x, hb, rfl, b1, b2, bs, b3⟩)) (fun o ho => ?_)
        obtain ⟨x116, h117, rfl, Th117, Ch117, fsh117, dx116⟩ := ho
        show cw_X _ _ _ _ _ [cv_i x116] h117
        have Fh117 : cw_Fr cw_Ds cw_sh mk_gt h0 h117 := cw_Fr_tr Fh110 (cw_Fr_mono (by decide +kernel) Ch117)
        rw [hx114, hx115] at dx116
        rw [E2] at dx116
        obtain ⟨wx116, lx116, Zh117, Dh117⟩ := zRe_r dx116
        clear dx116
        have eh117_111_16 : ri_at h117 111 16 = (u : Int) := (ri_frf Ch117 (d := 12) rfl rfl (by decide +kernel)).trans eh110_111_16
        clear eh110_111_16
        obtain ⟨yah117, ybh117, ych117, ydh117, -⟩ := id Zh117
        have zlh117 := zx_le (t := t) (n := n) (p := q2) (by omega)
        clear eh110_111_6 eh110_111_10 eh110_111_7 eh110_111_8
        exact ex_retb oq_X12_hasRead_92 rfl (by omega) (by omega) (hQ x116 h117 Th117 Fh117 (by omega) ⟨fun j hj => match j, hj with | 0, _ => (((Dh117.2 _ (by omega)).trans ((ri_ne wh110 (.inr (by omega))).trans (ri_frq Ch105 (k := 119) (d := 58) rfl rfl (by decide) (by decide +kernel))))).trans ((hD.1 0 (by decide)).trans (by rw [zgU_ne (by decide), zgU_ne (by decide)])) | 1, _ => (((Dh117.2 _ (by omega)).trans ((ri_ne wh110 (.inr (by omega))).trans (ri_frq Ch105 (k := 119) (d := 58) rfl rfl (by decide) (by decide +kernel))))).trans ((hD.1 1 (by decide)).trans (by rw [zgU_ne (by decide), zgU_ne (by decide)])) | 2, _ => (((Dh117.2 _ (by omega)).trans ((ri_ne wh110 (.inr (by omega))).trans (ri_frq Ch105 (k := 119) (d := 58) rfl rfl (by decide) (by decide +kernel))))).trans ((hD.1 2 (by decide)).trans (by rw [zgU_ne (by decide), zgU_ne (by decide)])) | 3, _ => (((Dh117.2 _ (by omega)).trans ((ri_ne wh110 (.inr (by omega))).trans (ri_frq Ch105 (k := 119) (d := 58) rfl rfl (by decide) (by decide +kernel))))).trans ((hD.1 3 (by decide)).trans (by rw [zgU_ne (by decide), zgU_ne (by decide)])) | 4, _ => (((Dh117.2 _ (by omega)).trans ((ri_ne wh110 (.inr (by omega))).trans (ri_frq Ch105 (k := 119) (d := 58) rfl rfl (by decide) (by decide +kernel))))).trans ((hD.1 4 (by decide)).trans (by rw [zgU_ne (by decide), zgU_ne (by decide)])) | 5, _ => (((Dh117.2 _ (by omega)).trans ((ri_ne wh110 (.inr (by omega))).trans (ri_frq Ch105 (k := 119) (d := 58) rfl rfl (by decide) (by decide +kernel))))).trans ((hD.1 5 (by decide)).trans (by rw [zgU_ne (by decide), zgU_ne (by decide)])) | 6, _ => (((Dh117.2 _ (by omega)).trans ((ri_ne wh110 (.inr (by omega))).trans (ri_frq Ch105 (k := 119) (d := 58) rfl rfl (by decide) (by decide +kernel))))).trans ((hD.1 6 (by decide)).trans (by rw [zgU_ne (by decide), zgU_ne (by decide)])) | 7, _ => (((Dh117.2 (b + 7) (by omega)).trans (ri_self wh110))).trans ((show x109.toInt = v1 from by omega).trans (by rw [zgU_ne (by decide), zgU_eq])) | 8, _ => ((Dh117.1 0 (by decide))).trans (by rw [zgU_eq]) | 9, _ => (((Dh117.2 _ (by omega)).trans ((ri_ne wh110 (.inr (by omega))).trans (ri_frq Ch105 (k := 119) (d := 58) rfl rfl (by decide) (by decide +kernel))))).trans ((hD.1 9 (by decide)).trans (by rw [zgU_ne (by decide), zgU_ne (by decide)])) | 10, _ => (((Dh117.2 _ (by omega)).trans ((ri_ne wh110 (.inr (by omega))).trans (ri_frq Ch105 (k := 119) (d := 58) rfl rfl (by decide) (by decide +kernel))))).trans ((hD.1 10 (by decide)).trans (by rw [zgU_ne (by decide), zgU_ne (by decide)])) | 11, _ => (((Dh117.2 _ (by omega)).trans ((ri_ne wh110 (.inr (by omega))).trans (ri_frq Ch105 (k := 119) (d := 58) rfl rfl (by decide) (by decide +kernel))))).trans ((hD.1 11 (by decide)).trans (by rw [zgU_ne (by decide), zgU_ne (by decide)])) | 12, _ => (((Dh117.2 _ (by omega)).trans ((ri_ne wh110 (.inr (by omega))).trans (ri_frq Ch105 (k := 119) (d := 58) rfl rfl (by decide) (by decide +kernel))))).trans ((hD.1 12 (by decide)).trans (by rw [zgU_ne (by decide), zgU_ne (by decide)])) | 13, _ => (((Dh117.2 _ (by omega)).trans ((ri_ne wh110 (.inr (by omega))).trans (ri_frq Ch105 (k := 119) (d := 58) rfl rfl (by decide) (by decide +kernel))))).trans ((hD.1 13 (by decide)).trans (by rw [zgU_ne (by decide), zgU_ne (by decide)])) | j + 14, hj => absurd hj (by omega), fun j hj => (((fsh117 _).trans ((ri_ne wh110 (.inl (by decide))).trans (ri_frr Ch105 (k := 120) (d := 59) rfl rfl (by decide +kernel))))).trans ((hD.2 j hj).trans (by rw [zgU_ne (by omega), zgU_ne (by omega)]))⟩ ⟨fun i hi => ((Dh117.2 _ (by omega)).trans ((ri_ne wh110 (.inr (by omega))).trans (ri_frq Ch105 (k := 119) (d := 58) rfl rfl (by decide) (by decide +kernel)))), fun i hi => ((fsh117 _).trans ((ri_ne wh110 (.inl (by decide))).trans (ri_frr Ch105 (k := 120) (d := 59) rfl rfl (by decide +kernel))))⟩)
      · exfalso; omega
    | 2, _, c101 => exfalso; omega
    | 3, _, c101 => exfalso; omega
    | 4, _, c101 => exfalso; omega
    | 5, _, c101 => exfalso; omega
    | 6, _, c101 => exfalso; omega
    | i + 7, hi, _ => exact absurd hi (by show ¬ i + 7 < 7; omega)
set_option maxHeartbeats 8000000 in
theorem rt_hasD3 {h0 : cv_H} {n p : Nat} (ht : ∀ i, i < n → t i = ri_at h0 112 i) (hn9 : n ≤ 900) (hT : cw_T G h0) (hwr : ∀ i, i < 177 → ri_at h0 113 i = pp_words.getD i 0) (hpn : p ≤ n) (hz : zR t n p h0) {b u : Nat} {g : Int32} (hg : g.toInt = b) (hb : b + 16 ≤ 128) (hu : u ≤ 3) (hgr : ri_at h0 111 16 = u) {hh : Int} (hg1 : ri_at h0 119 (b + 1) = hh) (hh2 : 24 ≤ hh ∧ hh ≤ 72) {D : Nat → Int} (hD : zKR h0 b u D) {w : Int32} (hw : w.toInt = 3) {vs : List Int} {q1 : Nat} (E1 : zns t n 0 9999 2 p = .inr (vs, q1)) (hQ : ∀ (x : Int32) h', cw_T G h' → cw_Fr cw_Ds cw_sh mk_gt h0 h' → x.toInt = 1 → zKR h' b u (zgU (zgU D 10 (vs.getD 0 0)) 11 (vs.getD 1 0)) → zKB b u h0 h' → Q (some (cv_i x), h')) : cw_X X 180 Q 0 (cv_ent 0 [cv_r 111, cv_i g, cv_i w]) [] h0 := by
  have Fh0 : cw_Fr cw_Ds cw_sh mk_gt h0 h0 := cw_Fr_refl
  have zxl := zx_le (t := t) hpn
  obtain ⟨z1, z2, z3, z4, z5⟩ := id hz
  replace z5 := zhd_i z5
  have hA : ∀ h, cw_Fr cw_Ds cw_sh mk_gt h0 h → ∀ i, ri_at h 112 i = ri_at h0 112 i := fun h F i => ri_frr F (k := 112) (d := 51) rfl rfl (by decide +kernel)
  have hB : ∀ h, cw_Fr cw_Ds cw_sh mk_gt h0 h → ∀ i, ri_at h 113 i = ri_at h0 113 i := fun h F i => ri_frr F (k := 113) (d := 52) rfl rfl (by decide +kernel)
  refine ex_il oq_X12_hasRead_0 rfl ?_
  refine ex_tsw oq_X12_hasRead_1 rfl (fun c101 => ⟨rfl, ?_⟩) (fun i hi c101 => ?_)
  · exfalso; omega
  · match i, hi, c101 with
    | 0, _, c101 => exfalso; omega
    | 1, _, c101 => exfalso; omega
    | 2, _, c101 => exfalso; omega
    | 3, _, c101 =>
      refine ⟨rfl, ?_⟩
      show cw_X _ _ _ 146 _ _ _
      refine ex_al oq_X12_hasRead_146 rfl ?_
      refine ex_al oq_X12_hasRead_147 rfl ?_
      refine ex_gf oq_X12_hasRead_148 hT (k := 111) (d := 12) rfl rfl (fr_gateHas hT) ?_
      refine ex_il oq_X12_hasRead_151 rfl ?_
      refine ex_bi oq_X12_hasRead_152 (m := 10) (by decide) (fun x102 hx102 => ?_)
      refine ex_add oq_X12_hasRead_154 (by omega) (fun x103 hx103 => ?_)
      refine ex_ic oq_X12_hasRead_155 (m := 2) (by decide) (fun x104 hx104 => ?_)
      refine ex_ic oq_X12_hasRead_156 (m := 0) (by decide) (fun x105 hx105 => ?_)
      refine ex_si oq_X12_hasRead_157 (m := 9999) (by decide) (fun x106 hx106 => ?_)
      refine ex_cv oq_X12_hasRead_160 (by decide) hT (k := 111) (d := 12) (as := [cv_r 119, cv_i x103, cv_i x104, cv_i x105, cv_i x106]) (stk := []) rfl rfl rfl rfl rfl rfl ⟨rfl, rfl⟩ (R := fun o => ∃ (x : Int32) (hb : cv_H), o = (some (cv_i x), hb) ∧ cw_T G hb ∧ cw_Fr cw_Ds cw_sh mk_gt h0 hb ∧ zFS h0 hb ∧ zRe t n h0 hb x (zns t n x105.toInt x106.toInt 2 p) (fun vs => (∀ i, i < 2 → ri_at hb 119 (b + 10 + i) = vs.getD i 0) ∧ ∀ i, (i < b + 10 ∨ b + 10 + 2 ≤ i) → ri_at hb 119 i = ri_at h0 119 i)) (rt_numbersHS (t := t) (n := n) (p := p) (f := b + 10) (m := 2) hT (by omega) hz (fun i hi => by rw [ht i hi, ← hA _ Fh0]) hn9 (fun i hi => by rw [hB _ Fh0]; exact hwr i hi) (by omega) (by omega) (by omega) (by omega) (by omega) (fun x hb b1 b2 bs b3 => ⟨x, hb, rfl, b1, b2, bs, b3⟩)) (fun o ho => ?_)
      obtain ⟨x107, h108, rfl, Th108, Ch108, fsh108, dx107⟩ := ho
      show cw_X _ _ _ _ _ [cv_i x107] h108
      have Fh108 : cw_Fr cw_Ds cw_sh mk_gt h0 h108 := cw_Fr_tr Fh0 (cw_Fr_mono (by decide +kernel) Ch108)
      rw [hx105, hx106] at dx107
      rw [E1] at dx107
      obtain ⟨wx107, lx107, Zh108, Dh108⟩ := zRe_r dx107
      clear dx107
      have eh108_111_16 : ri_at h108 111 16 = (u : Int) := (ri_frf Ch108 (d := 12) rfl rfl (by decide +kernel)).trans hgr
      obtain ⟨yah108, ybh108, ych108, ydh108, -⟩ := id Zh108
      have zlh108 := zx_le (t := t) (n := n) (p := q1) (by omega)
      exact ex_retb oq_X12_hasRead_163 rfl (by omega) (by omega) (hQ x107 h108 Th108 Fh108 (by omega) ⟨fun j hj => match j, hj with | 0, _ => ((Dh108.2 _ (by omega))).trans ((hD.1 0 (by decide)).trans (by rw [zgU_ne (by decide), zgU_ne (by decide)])) | 1, _ => ((Dh108.2 _ (by omega))).trans ((hD.1 1 (by decide)).trans (by rw [zgU_ne (by decide), zgU_ne (by decide)])) | 2, _ => ((Dh108.2 _ (by omega))).trans ((hD.1 2 (by decide)).trans (by rw [zgU_ne (by decide), zgU_ne (by decide)])) | 3, _ => ((Dh108.2 _ (by omega))).trans ((hD.1 3 (by decide)).trans (by rw [zgU_ne (by decide), zgU_ne (by decide)])) | 4, _ => ((Dh108.2 _ (by omega))).trans ((hD.1 4 (by decide)).trans (by rw [zgU_ne (by decide), zgU_ne (by decide)])) | 5, _ => ((Dh108.2 _ (by omega))).trans ((hD.1 5 (by decide)).trans (by rw [zgU_ne (by decide), zgU_ne (by decide)])) | 6, _ => ((Dh108.2 _ (by omega))).trans ((hD.1 6 (by decide)).trans (by rw [zgU_ne (by decide), zgU_ne (by decide)])) | 7, _ => ((Dh108.2 _ (by omega))).trans ((hD.1 7 (by decide)).trans (by rw [zgU_ne (by decide), zgU_ne (by decide)])) | 8, _ => ((Dh108.2 _ (by omega))).trans ((hD.1 8 (by decide)).trans (by rw [zgU_ne (by decide), zgU_ne (by decide)])) | 9, _ => ((Dh108.2 _ (by omega))).trans ((hD.1 9 (by decide)).trans (by rw [zgU_ne (by decide), zgU_ne (by decide)])) | 10, _ => ((Dh108.1 0 (by decide))).trans (by rw [zgU_ne (by decide), zgU_eq]) | 11, _ => ((Dh108.1 1 (by decide))).trans (by rw [zgU_eq]) | 12, _ => ((Dh108.2 _ (by omega))).trans ((hD.1 12 (by decide)).trans (by rw [zgU_ne (by decide), zgU_ne (by decide)])) | 13, _ => ((Dh108.2 _ (by omega))).trans ((hD.1 13 (by decide)).trans (by rw [zgU_ne (by decide), zgU_ne (by decide)])) | j + 14, hj => absurd hj (by omega), fun j hj => ((fsh108 _)).trans ((hD.2 j hj).trans (by rw [zgU_ne (by omega), zgU_ne (by omega)]))⟩ ⟨fun i hi => (Dh108.2 _ (by omega)), fun i hi => (fsh108 _)⟩)
    | 4, _, c101 => exfalso; omega
    | 5, _, c101 => exfalso; omega
    | 6, _, c101 => exfalso; omega
    | i + 7, hi, _ => exact absurd hi (by show ¬ i + 7 < 7; omega)
set_option maxHeartbeats 8000000 in
theorem rt_hasD4 {h0 : cv_H} {n p : Nat} (ht : ∀ i, i < n → t i = ri_at h0 112 i) (hn9 : n ≤ 900) (hT : cw_T G h0) (hwr : ∀ i, i < 177 → ri_at h0 113 i = pp_words.getD i 0) (hpn : p ≤ n) (hz : zR t n p h0) {b u : Nat} {g : Int32} (hg : g.toInt = b) (hb : b + 16 ≤ 128) (hu : u ≤ 3) (hgr : ri_at h0 111 16 = u) {hh : Int} (hg1 : ri_at h0 119 (b + 1) = hh) (hh2 : 24 ≤ hh ∧ hh ≤ 72) {D : Nat → Int} (hD : zKR h0 b u D) {w : Int32} (hw : w.toInt = 4) {vs : List Int} {q1 : Nat} (E1 : zns t n 0 9999 1 p = .inr (vs, q1)) (hQ : ∀ (x : Int32) h', cw_T G h' → cw_Fr cw_Ds cw_sh mk_gt h0 h' → x.toInt = 1 → zKR h' b u (zgU D 13 (vs.getD 0 0)) → zKB b u h0 h' → Q (some (cv_i x), h')) : cw_X X 180 Q 0 (cv_ent 0 [cv_r 111, cv_i g, cv_i w]) [] h0 := by
  have Fh0 : cw_Fr cw_Ds cw_sh mk_gt h0 h0 := cw_Fr_refl
  have zxl := zx_le (t := t) hpn
  obtain ⟨z1, z2, z3, z4, z5⟩ := id hz
  replace z5 := zhd_i z5
  have hA : ∀ h, cw_Fr cw_Ds cw_sh mk_gt h0 h → ∀ i, ri_at h 112 i = ri_at h0 112 i := fun h F i => ri_frr F (k := 112) (d := 51) rfl rfl (by decide +kernel)
  have hB : ∀ h, cw_Fr cw_Ds cw_sh mk_gt h0 h → ∀ i, ri_at h 113 i = ri_at h0 113 i := fun h F i => ri_frr F (k := 113) (d := 52) rfl rfl (by decide +kernel)
  refine ex_il oq_X12_hasRead_0 rfl ?_
  refine ex_tsw oq_X12_hasRead_1 rfl (fun c101 => ⟨rfl, ?_⟩) (fun i hi c101 => ?_)
  · exfalso; omega
  · match i, hi, c101 with
    | 0, _, c101 => exfalso; omega
    | 1, _, c101 => exfalso; omega
    | 2, _, c101 => exfalso; omega
    | 3, _, c101 => exfalso; omega
    | 4, _, c101 =>
      refine ⟨rfl, ?_⟩
      show cw_X _ _ _ 164 _ _ _
      refine ex_al oq_X12_hasRead_164 rfl ?_
      refine ex_al oq_X12_hasRead_165 rfl ?_
      refine ex_gf oq_X12_hasRead_166 hT (k := 111) (d := 12) rfl rfl (fr_gateHas hT) ?_
      refine ex_il oq_X12_hasRead_169 rfl ?_
      refine ex_bi oq_X12_hasRead_170 (m := 13) (by decide) (fun x102 hx102 => ?_)
      refine ex_add oq_X12_hasRead_172 (by omega) (fun x103 hx103 => ?_)
      refine ex_ic oq_X12_hasRead_173 (m := 1) (by decide) (fun x104 hx104 => ?_)
      refine ex_ic oq_X12_hasRead_174 (m := 0) (by decide) (fun x105 hx105 => ?_)
      refine ex_si oq_X12_hasRead_175 (m := 9999) (by decide) (fun x106 hx106 => ?_)
      refine ex_cv oq_X12_hasRead_178 (by decide) hT (k := 111) (d := 12) (as := [cv_r 119, cv_i x103, cv_i x104, cv_i x105, cv_i x106]) (stk := []) rfl rfl rfl rfl rfl rfl ⟨rfl, rfl⟩ (R := fun o => ∃ (x : Int32) (hb : cv_H), o = (some (cv_i x), hb) ∧ cw_T G hb ∧ cw_Fr cw_Ds cw_sh mk_gt h0 hb ∧ zFS h0 hb ∧ zRe t n h0 hb x (zns t n x105.toInt x106.toInt 1 p) (fun vs => (∀ i, i < 1 → ri_at hb 119 (b + 13 + i) = vs.getD i 0) ∧ ∀ i, (i < b + 13 ∨ b + 13 + 1 ≤ i) → ri_at hb 119 i = ri_at h0 119 i)) (rt_numbersHS (t := t) (n := n) (p := p) (f := b + 13) (m := 1) hT (by omega) hz (fun i hi => by rw [ht i hi, ← hA _ Fh0]) hn9 (fun i hi => by rw [hB _ Fh0]; exact hwr i hi) (by omega) (by omega) (by omega) (by omega) (by omega) (fun x hb b1 b2 bs b3 => ⟨x, hb, rfl, b1, b2, bs, b3⟩)) (fun o ho => ?_)
      obtain ⟨x107, h108, rfl, Th108, Ch108, fsh108, dx107⟩ := ho
      show cw_X _ _ _ _ _ [cv_i x107] h108
      have Fh108 : cw_Fr cw_Ds cw_sh mk_gt h0 h108 := cw_Fr_tr Fh0 (cw_Fr_mono (by decide +kernel) Ch108)
      rw [hx105, hx106] at dx107
      rw [E1] at dx107
      obtain ⟨wx107, lx107, Zh108, Dh108⟩ := zRe_r dx107
      clear dx107
      have eh108_111_16 : ri_at h108 111 16 = (u : Int) := (ri_frf Ch108 (d := 12) rfl rfl (by decide +kernel)).trans hgr
      obtain ⟨yah108, ybh108, ych108, ydh108, -⟩ := id Zh108
      have zlh108 := zx_le (t := t) (n := n) (p := q1) (by omega)
      exact ex_retb oq_X12_hasRead_181 rfl (by omega) (by omega) (hQ x107 h108 Th108 Fh108 (by omega) ⟨fun j hj => match j, hj with | 0, _ => ((Dh108.2 _ (by omega))).trans ((hD.1 0 (by decide)).trans (by rw [zgU_ne (by decide)])) | 1, _ => ((Dh108.2 _ (by omega))).trans ((hD.1 1 (by decide)).trans (by rw [zgU_ne (by decide)])) | 2, _ => ((Dh108.2 _ (by omega))).trans ((hD.1 2 (by decide)).trans (by rw [zgU_ne (by decide)])) | 3, _ => ((Dh108.2 _ (by omega))).trans ((hD.1 3 (by decide)).trans (by rw [zgU_ne (by decide)])) | 4, _ => ((Dh108.2 _ (by omega))).trans ((hD.1 4 (by decide)).trans (by rw [zgU_ne (by decide)])) | 5, _ => ((Dh108.2 _ (by omega))).trans ((hD.1 5 (by decide)).trans (by rw [zgU_ne (by decide)])) | 6, _ => ((Dh108.2 _ (by omega))).trans ((hD.1 6 (by decide)).trans (by rw [zgU_ne (by decide)])) | 7, _ => ((Dh108.2 _ (by omega))).trans ((hD.1 7 (by decide)).trans (by rw [zgU_ne (by decide)])) | 8, _ => ((Dh108.2 _ (by omega))).trans ((hD.1 8 (by decide)).trans (by rw [zgU_ne (by decide)])) | 9, _ => ((Dh108.2 _ (by omega))).trans ((hD.1 9 (by decide)).trans (by rw [zgU_ne (by decide)])) | 10, _ => ((Dh108.2 _ (by omega))).trans ((hD.1 10 (by decide)).trans (by rw [zgU_ne (by decide)])) | 11, _ => ((Dh108.2 _ (by omega))).trans ((hD.1 11 (by decide)).trans (by rw [zgU_ne (by decide)])) | 12, _ => ((Dh108.2 _ (by omega))).trans ((hD.1 12 (by decide)).trans (by rw [zgU_ne (by decide)])) | 13, _ => ((Dh108.1 0 (by decide))).trans (by rw [zgU_eq]) | j + 14, hj => absurd hj (by omega), fun j hj => ((fsh108 _)).trans ((hD.2 j hj).trans (by rw [zgU_ne (by omega)]))⟩ ⟨fun i hi => (Dh108.2 _ (by omega)), fun i hi => (fsh108 _)⟩)
    | 5, _, c101 => exfalso; omega
    | 6, _, c101 => exfalso; omega
    | i + 7, hi, _ => exact absurd hi (by show ¬ i + 7 < 7; omega)
set_option maxHeartbeats 8000000 in
theorem rt_hasD7 {h0 : cv_H} {n p : Nat} (ht : ∀ i, i < n → t i = ri_at h0 112 i) (hn9 : n ≤ 900) (hT : cw_T G h0) (hwr : ∀ i, i < 177 → ri_at h0 113 i = pp_words.getD i 0) (hpn : p ≤ n) (hz : zR t n p h0) {b u : Nat} {g : Int32} (hg : g.toInt = b) (hb : b + 16 ≤ 128) (hu : u ≤ 3) (hgr : ri_at h0 111 16 = u) {hh : Int} (hg1 : ri_at h0 119 (b + 1) = hh) (hh2 : 24 ≤ hh ∧ hh ≤ 72) {D : Nat → Int} (hD : zKR h0 b u D) {w : Int32} (hw : w.toInt = 7) {vs : List Int} {q1 : Nat} (E1 : zns t n 0 200 1 p = .inr (vs, q1)) (hQ : ∀ (x : Int32) h', cw_T G h' → cw_Fr cw_Ds cw_sh mk_gt h0 h' → x.toInt = 1 → zKR h' b u (zgU D 12 (vs.getD 0 0)) → zKB b u h0 h' → Q (some (cv_i x), h')) : cw_X X 180 Q 0 (cv_ent 0 [cv_r 111, cv_i g, cv_i w]) [] h0 := by
  have Fh0 : cw_Fr cw_Ds cw_sh mk_gt h0 h0 := cw_Fr_refl
  have zxl := zx_le (t := t) hpn
  obtain ⟨z1, z2, z3, z4, z5⟩ := id hz
  replace z5 := zhd_i z5
  have hA : ∀ h, cw_Fr cw_Ds cw_sh mk_gt h0 h → ∀ i, ri_at h 112 i = ri_at h0 112 i := fun h F i => ri_frr F (k := 112) (d := 51) rfl rfl (by decide +kernel)
  have hB : ∀ h, cw_Fr cw_Ds cw_sh mk_gt h0 h → ∀ i, ri_at h 113 i = ri_at h0 113 i := fun h F i => ri_frr F (k := 113) (d := 52) rfl rfl (by decide +kernel)
  refine ex_il oq_X12_hasRead_0 rfl ?_
  refine ex_tsw oq_X12_hasRead_1 rfl (fun c101 => ⟨rfl, ?_⟩) (fun i hi c101 => ?_)
  · show cw_X _ _ _ 213 _ _ _
    refine ex_al oq_X12_hasRead_213 rfl ?_
    refine ex_al oq_X12_hasRead_214 rfl ?_
    refine ex_gf oq_X12_hasRead_215 hT (k := 111) (d := 12) rfl rfl (fr_gateHas hT) ?_
    refine ex_il oq_X12_hasRead_218 rfl ?_
    refine ex_bi oq_X12_hasRead_219 (m := 12) (by decide) (fun x102 hx102 => ?_)
    refine ex_add oq_X12_hasRead_221 (by omega) (fun x103 hx103 => ?_)
    refine ex_ic oq_X12_hasRead_222 (m := 1) (by decide) (fun x104 hx104 => ?_)
    refine ex_ic oq_X12_hasRead_223 (m := 0) (by decide) (fun x105 hx105 => ?_)
    refine ex_si oq_X12_hasRead_224 (m := 200) (by decide) (fun x106 hx106 => ?_)
    refine ex_cv oq_X12_hasRead_227 (by decide) hT (k := 111) (d := 12) (as := [cv_r 119, cv_i x103, cv_i x104, cv_i x105, cv_i x106]) (stk := []) rfl rfl rfl rfl rfl rfl ⟨rfl, rfl⟩ (R := fun o => ∃ (x : Int32) (hb : cv_H), o = (some (cv_i x), hb) ∧ cw_T G hb ∧ cw_Fr cw_Ds cw_sh mk_gt h0 hb ∧ zFS h0 hb ∧ zRe t n h0 hb x (zns t n x105.toInt x106.toInt 1 p) (fun vs => (∀ i, i < 1 → ri_at hb 119 (b + 12 + i) = vs.getD i 0) ∧ ∀ i, (i < b + 12 ∨ b + 12 + 1 ≤ i) → ri_at hb 119 i = ri_at h0 119 i)) (rt_numbersHS (t := t) (n := n) (p := p) (f := b + 12) (m := 1) hT (by omega) hz (fun i hi => by rw [ht i hi, ← hA _ Fh0]) hn9 (fun i hi => by rw [hB _ Fh0]; exact hwr i hi) (by omega) (by omega) (by omega) (by omega) (by omega) (fun x hb b1 b2 bs b3 => ⟨x, hb, rfl, b1, b2, bs, b3⟩)) (fun o ho => ?_)
    obtain ⟨x107, h108, rfl, Th108, Ch108, fsh108, dx107⟩ := ho
    show cw_X _ _ _ _ _ [cv_i x107] h108
    have Fh108 : cw_Fr cw_Ds cw_sh mk_gt h0 h108 := cw_Fr_tr Fh0 (cw_Fr_mono (by decide +kernel) Ch108)
    rw [hx105, hx106] at dx107
    rw [E1] at dx107
    obtain ⟨wx107, lx107, Zh108, Dh108⟩ := zRe_r dx107
    clear dx107
    have eh108_111_16 : ri_at h108 111 16 = (u : Int) := (ri_frf Ch108 (d := 12) rfl rfl (by decide +kernel)).trans hgr
    obtain ⟨yah108, ybh108, ych108, ydh108, -⟩ := id Zh108
    have zlh108 := zx_le (t := t) (n := n) (p := q1) (by omega)
    exact ex_retb oq_X12_hasRead_230 rfl (by omega) (by omega) (hQ x107 h108 Th108 Fh108 (by omega) ⟨fun j hj => match j, hj with | 0, _ => ((Dh108.2 _ (by omega))).trans ((hD.1 0 (by decide)).trans (by rw [zgU_ne (by decide)])) | 1, _ => ((Dh108.2 _ (by omega))).trans ((hD.1 1 (by decide)).trans (by rw [zgU_ne (by decide)])) | 2, _ => ((Dh108.2 _ (by omega))).trans ((hD.1 2 (by decide)).trans (by rw [zgU_ne (by decide)])) | 3, _ => ((Dh108.2 _ (by omega))).trans ((hD.1 3 (by decide)).trans (by rw [zgU_ne (by decide)])) | 4, _ => ((Dh108.2 _ (by omega))).trans ((hD.1 4 (by decide)).trans (by rw [zgU_ne (by decide)])) | 5, _ => ((Dh108.2 _ (by omega))).trans ((hD.1 5 (by decide)).trans (by rw [zgU_ne (by decide)])) | 6, _ => ((Dh108.2 _ (by omega))).trans ((hD.1 6 (by decide)).trans (by rw [zgU_ne (by decide)])) | 7, _ => ((Dh108.2 _ (by omega))).trans ((hD.1 7 (by decide)).trans (by rw [zgU_ne (by decide)])) | 8, _ => ((Dh108.2 _ (by omega))).trans ((hD.1 8 (by decide)).trans (by rw [zgU_ne (by decide)])) | 9, _ => ((Dh108.2 _ (by omega))).trans ((hD.1 9 (by decide)).trans (by rw [zgU_ne (by decide)])) | 10, _ => ((Dh108.2 _ (by omega))).trans ((hD.1 10 (by decide)).trans (by rw [zgU_ne (by decide)])) | 11, _ => ((Dh108.2 _ (by omega))).trans ((hD.1 11 (by decide)).trans (by rw [zgU_ne (by decide)])) | 12, _ => ((Dh108.1 0 (by decide))).trans (by rw [zgU_eq]) | 13, _ => ((Dh108.2 _ (by omega))).trans ((hD.1 13 (by decide)).trans (by rw [zgU_ne (by decide)])) | j + 14, hj => absurd hj (by omega), fun j hj => ((fsh108 _)).trans ((hD.2 j hj).trans (by rw [zgU_ne (by omega)]))⟩ ⟨fun i hi => (Dh108.2 _ (by omega)), fun i hi => (fsh108 _)⟩)
  · exfalso; have : i < 7 := hi; omega
set_option maxHeartbeats 8000000 in
theorem rt_hasD0 {h0 : cv_H} {n p : Nat} (ht : ∀ i, i < n → t i = ri_at h0 112 i) (hn9 : n ≤ 900) (hT : cw_T G h0) (hwr : ∀ i, i < 177 → ri_at h0 113 i = pp_words.getD i 0) (hpn : p ≤ n) (hz : zR t n p h0) {b u : Nat} {g : Int32} (hg : g.toInt = b) (hb : b + 16 ≤ 128) (hu : u ≤ 3) (hgr : ri_at h0 111 16 = u) {hh : Int} (hg1 : ri_at h0 119 (b + 1) = hh) (hh2 : 24 ≤ hh ∧ hh ≤ 72) {D : Nat → Int} (hD : zKR h0 b u D) {w : Int32} (hw : w.toInt = 0) {v1 v2 v3 v4 : Int} {q1 q2 q3 q4 : Nat} (E1 : zn t n 0 hh p = .inr (v1, q1)) (E2 : zn t n (v1 + 1) hh q1 = .inr (v2, q2)) (E3 : zg t n 30 q2 = .inr (v3, q3)) (E4 : zg t n 30 q3 = .inr (v4, q4)) (hQ : ∀ (x : Int32) h', cw_T G h' → cw_Fr cw_Ds cw_sh mk_gt h0 h' → x.toInt = 1 → zKR h' b u (zgU (zgU (zgU (zgU D 3 v1) 4 v2) 5 v3) 6 v4) → zKB b u h0 h' → Q (some (cv_i x), h')) : cw_X X 180 Q 0 (cv_ent 0 [cv_r 111, cv_i g, cv_i w]) [] h0 := by
  have Fh0 : cw_Fr cw_Ds cw_sh mk_gt h0 h0 := cw_Fr_refl
  have zxl := zx_le (t := t) hpn
  obtain ⟨z1, z2, z3, z4, z5⟩ := id hz
  replace z5 := zhd_i z5
  have hA : ∀ h, cw_Fr cw_Ds cw_sh mk_gt h0 h → ∀ i, ri_at h 112 i = ri_at h0 112 i := fun h F i => ri_frr F (k := 112) (d := 51) rfl rfl (by decide +kernel)
  have hB : ∀ h, cw_Fr cw_Ds cw_sh mk_gt h0 h → ∀ i, ri_at h 113 i = ri_at h0 113 i := fun h F i => ri_frr F (k := 113) (d := 52) rfl rfl (by decide +kernel)
  refine ex_il oq_X12_hasRead_0 rfl ?_
  refine ex_tsw oq_X12_hasRead_1 rfl (fun c101 => ⟨rfl, ?_⟩) (fun i hi c101 => ?_)
  · exfalso; omega
  · match i, hi, c101 with
    | 0, _, c101 =>
      refine ⟨rfl, ?_⟩
      show cw_X _ _ _ 44 _ _ _
      refine ex_al oq_X12_hasRead_44 rfl ?_
      refine ex_il oq_X12_hasRead_45 rfl ?_
      refine ex_cv oq_X12_hasRead_46 (by decide) hT (k := 111) (d := 12) (as := [cv_i g]) (stk := []) rfl rfl rfl rfl rfl rfl ⟨rfl, rfl⟩ (R := fun o => ∃ (x : Int32) (hb : cv_H), o = (some (cv_i x), hb) ∧ cw_T G hb ∧ cw_Fr cw_Ds cw_sh mk_gt h0 hb ∧ x.toInt = 1 ∧ zKR hb b u (zgU (zgU (zgU (zgU D 3 v1) 4 v2) 5 v3) 6 v4) ∧ zKB b u h0 hb) (rt_hooksD (t := t) (n := n) (p := p) (fun i hi => by rw [ht i hi, ← hA _ Fh0]) hn9 hT (fun i hi => by rw [hB _ Fh0]; exact hwr i hi) (by omega) hz hg hb hu hgr hg1 hh2 hD E1 E2 E3 E4 (fun x hb b1 b2 b3 b4 b5 => ⟨x, hb, rfl, b1, b2, b3, b4, b5⟩)) (fun o ho => ?_)
      obtain ⟨x102, h103, rfl, Th103, Ch103, d0, d1, d2⟩ := ho
      show cw_X _ _ _ _ _ [cv_i x102] h103
      have Fh103 : cw_Fr cw_Ds cw_sh mk_gt h0 h103 := cw_Fr_tr Fh0 (cw_Fr_mono (by decide +kernel) Ch103)
      exact ex_retb oq_X12_hasRead_49 rfl (by omega) (by omega) (hQ x102 h103 Th103 Fh103 d0 d1 d2)
    | 1, _, c101 => exfalso; omega
    | 2, _, c101 => exfalso; omega
    | 3, _, c101 => exfalso; omega
    | 4, _, c101 => exfalso; omega
    | 5, _, c101 => exfalso; omega
    | 6, _, c101 => exfalso; omega
    | i + 7, hi, _ => exact absurd hi (by show ¬ i + 7 < 7; omega)
set_option maxHeartbeats 8000000 in
theorem rt_hasD2 {h0 : cv_H} {n p : Nat} (ht : ∀ i, i < n → t i = ri_at h0 112 i) (hn9 : n ≤ 900) (hT : cw_T G h0) (hwr : ∀ i, i < 177 → ri_at h0 113 i = pp_words.getD i 0) (hpn : p ≤ n) (hz : zR t n p h0) {b u : Nat} {g : Int32} (hg : g.toInt = b) (hb : b + 16 ≤ 128) (hu : u ≤ 3) (hgr : ri_at h0 111 16 = u) {hh : Int} (hg1 : ri_at h0 119 (b + 1) = hh) (hh2 : 24 ≤ hh ∧ hh ≤ 72) {D : Nat → Int} (hD : zKR h0 b u D) {w : Int32} (hw : w.toInt = 2) (E1 : zk t n p = 1 ∧ (zw t n p = 28 ∨ zw t n p = 29)) (hQ : ∀ (x : Int32) h', cw_T G h' → cw_Fr cw_Ds cw_sh mk_gt h0 h' → x.toInt = 1 → zKR h' b u (zgU D 9 (if zw t n p = 28 then 1 else 2)) → zKB b u h0 h' → Q (some (cv_i x), h')) : cw_X X 180 Q 0 (cv_ent 0 [cv_r 111, cv_i g, cv_i w]) [] h0 := by
  have Fh0 : cw_Fr cw_Ds cw_sh mk_gt h0 h0 := cw_Fr_refl
  have zxl := zx_le (t := t) hpn
  obtain ⟨z1, z2, z3, z4, z5⟩ := id hz
  replace z5 := zhd_i z5
  have hA : ∀ h, cw_Fr cw_Ds cw_sh mk_gt h0 h → ∀ i, ri_at h 112 i = ri_at h0 112 i := fun h F i => ri_frr F (k := 112) (d := 51) rfl rfl (by decide +kernel)
  have hB : ∀ h, cw_Fr cw_Ds cw_sh mk_gt h0 h → ∀ i, ri_at h 113 i = ri_at h0 113 i := fun h F i => ri_frr F (k := 113) (d := 52) rfl rfl (by decide +kernel)
  refine ex_il oq_X12_hasRead_0 rfl ?_
  refine ex_tsw oq_X12_hasRead_1 rfl (fun c101 => ⟨rfl, ?_⟩) (fun i hi c101 => ?_)
  · exfalso; omega
  · match i, hi, c101 with
    | 0, _, c101 => exfalso; omega
    | 1, _, c101 => exfalso; omega
    | 2, _, c101 =>
      refine ⟨rfl, ?_⟩
      show cw_X _ _ _ 93 _ _ _
      refine ex_al oq_X12_hasRead_93 rfl ?_
      refine ex_bi oq_X12_hasRead_94 (m := 28) (by decide) (fun x102 hx102 => ?_)
      refine ex_cv oq_X12_hasRead_96 (by decide) hT (k := 111) (d := 12) (as := [cv_i x102]) (stk := []) rfl rfl rfl rfl rfl rfl ⟨rfl, rfl⟩ (R := fun o => ∃ x : Int32, o = (some (cv_i x), h0) ∧ (x.toInt = 1 ∧ zk t n p = 1 ∧ zw t n p = x102.toInt ∨ x.toInt = 0 ∧ ¬ (zk t n p = 1 ∧ zw t n p = x102.toInt))) (rt_isKey (t := t) (n := n) (p := p) hT (by exact hz) x102 (fun x q => ⟨x, rfl, q⟩)) (fun o ho => ?_)
      obtain ⟨x103, rfl, dx103⟩ := ho
      show cw_X _ _ _ _ _ [cv_i x103] h0
      rw [hx102] at dx103
      refine ex_if0 oq_X12_hasRead_99 (t := 117) rfl rfl (fun (c104 : ¬ x103.toInt = 0) => ?_) (fun (c104 : ¬ (¬ x103.toInt = 0)) => ?_)
      · obtain ⟨_, dx103, dx103b⟩ := isin_y dx103 c104
        refine ex_al oq_X12_hasRead_117 rfl ?_
        refine ex_gf oq_X12_hasRead_118 hT (k := 111) (d := 12) rfl rfl (fr_gateHas hT) ?_
        refine ex_il oq_X12_hasRead_121 rfl ?_
        refine ex_bi oq_X12_hasRead_122 (m := 9) (by decide) (fun x105 hx105 => ?_)
        refine ex_add oq_X12_hasRead_124 (by omega) (fun x106 hx106 => ?_)
        refine ex_al oq_X12_hasRead_125 rfl ?_
        refine ex_bi oq_X12_hasRead_126 (m := 28) (by decide) (fun x107 hx107 => ?_)
        refine ex_cv oq_X12_hasRead_128 (by decide) hT (k := 111) (d := 12) (as := [cv_i x107]) (stk := [cv_i x106, cv_r 119]) rfl rfl rfl rfl rfl rfl ⟨rfl, rfl⟩ (R := fun o => ∃ x : Int32, o = (some (cv_i x), h0) ∧ (x.toInt = 1 ∧ zk t n p = 1 ∧ zw t n p = x107.toInt ∨ x.toInt = 0 ∧ ¬ (zk t n p = 1 ∧ zw t n p = x107.toInt))) (rt_isKey (t := t) (n := n) (p := p) hT (by exact hz) x107 (fun x q => ⟨x, rfl, q⟩)) (fun o ho => ?_)
        obtain ⟨x108, rfl, dx108⟩ := ho
        show cw_X _ _ _ _ _ [cv_i x108, cv_i x106, cv_r 119] h0
        rw [hx107] at dx108
        refine ex_if0 oq_X12_hasRead_131 (t := 138) rfl rfl (fun (c109 : x108.toInt = 0) => ?_) (fun (c109 : ¬ (x108.toInt = 0)) => ?_)
        · replace dx108 := flag_n dx108 c109
          refine ex_ic oq_X12_hasRead_138 (m := 2) (by decide) (fun x110 hx110 => ?_)
          refine ex_iw oq_X12_hasRead_139 hT (k := 119) (d := 58) (j := b + 9) rfl rfl (by omega) (by omega) (fun r hr => gh_get hr _ (cw_i32 _)) (fun h111 Th111 wh111 => ?_)
          have Fh111 : cw_Fr cw_Ds cw_sh mk_gt h0 h111 := cw_Fr_tr Fh0 (cw_Fr_wrr wh111 (k := 119) (d := 58) rfl rfl (by decide +kernel))
          have eh111_111_4 : ri_at h111 111 4 = ri_at h0 111 4 := ri_ne wh111 (.inl (by decide))
          have eh111_111_5 : ri_at h111 111 5 = ri_at h0 111 5 := ri_ne wh111 (.inl (by decide))
          have eh111_111_6 : ri_at h111 111 6 = (n : Int) := (ri_ne wh111 (.inl (by decide))).trans z1
          have eh111_111_7 : ri_at h111 111 7 = ((zx t n p : Nat) : Int) := (ri_ne wh111 (.inl (by decide))).trans z3
          have eh111_111_8 : ri_at h111 111 8 = zk t n p := (ri_ne wh111 (.inl (by decide))).trans z4
          have eh111_111_10 : ri_at h111 111 10 = ((za t n p : Nat) : Int) := (ri_ne wh111 (.inl (by decide))).trans z2
          have eh111_111_11 : ri_at h111 111 11 = ri_at h0 111 11 := ri_ne wh111 (.inl (by decide))
          have eh111_111_16 : ri_at h111 111 16 = (u : Int) := (ri_ne wh111 (.inl (by decide))).trans hgr
          have eh111_r1 : ri_at h111 119 (b + 1) = hh := (ri_ne wh111 (.inr (by omega))).trans hg1
          have Zh111 := zR_wr wh111 hz (.inl (by decide))
          refine ex_al oq_X12_hasRead_140 rfl ?_
          refine ex_cv oq_X12_hasRead_141 (by decide) Th111 (k := 111) (d := 12) (as := []) (stk := []) rfl rfl rfl rfl rfl rfl ⟨rfl, rfl⟩ (R := fun o => ∃ hb : cv_H, o = (none, hb) ∧ cw_T G hb ∧ cw_Fr cw_Ds cw_sh kk_X12_token.2.2.2.2.2.1 h111 hb ∧ zR t n (zx t n p) hb) (rt_tok (t := t) (n := n) (p := (zx t n p)) (fun i hi => by rw [ht i hi, ← hA _ Fh111]) hn9 (fun i hi => by rw [hB _ Fh111]; exact hwr i hi) Th111 (zx_le (by omega)) (by omega) (by omega) (fun hb b1 b2 b3 => ⟨hb, rfl, b1, b2, b3⟩)) (fun o ho => ?_)
          obtain ⟨h112, rfl, Th112, Ch112, Zh112⟩ := ho
          show cw_X _ _ _ _ _ [] h112
          have Fh112 : cw_Fr cw_Ds cw_sh mk_gt h0 h112 := cw_Fr_tr Fh111 (cw_Fr_mono (by decide +kernel) Ch112)
          have eh112_111_4 : ri_at h112 111 4 = ri_at h0 111 4 := (ri_frf Ch112 (d := 12) rfl rfl (by decide +kernel)).trans eh111_111_4
          clear eh111_111_4
          have eh112_111_5 : ri_at h112 111 5 = ri_at h0 111 5 := (ri_frf Ch112 (d := 12) rfl rfl (by decide +kernel)).trans eh111_111_5
          clear eh111_111_5
          have eh112_111_11 : ri_at h112 111 11 = ri_at h0 111 11 := (ri_frf Ch112 (d := 12) rfl rfl (by decide +kernel)).trans eh111_111_11
          clear eh111_111_11
          have eh112_111_16 : ri_at h112 111 16 = (u : Int) := (ri_frf Ch112 (d := 12) rfl rfl (by decide +kernel)).trans eh111_111_16
          clear eh111_111_16
          have eh112_r1 : ri_at h112 119 (b + 1) = hh := (ri_frq Ch112 (k := 119) (d := 58) rfl rfl (by decide) (by decide +kernel)).trans eh111_r1
          clear eh111_r1
          obtain ⟨yah112, ybh112, ych112, ydh112, -⟩ := id Zh112
          have zlh112 := zx_le (t := t) (n := n) (p := (zx t n p)) (by omega)
          clear eh111_111_6 eh111_111_10 eh111_111_7 eh111_111_8
          refine ex_ic oq_X12_hasRead_144 (m := 1) (by decide) (fun x113 hx113 => ?_)
          exact ex_retb oq_X12_hasRead_145 rfl (by omega) (by omega) (hQ x113 h112 Th112 Fh112 (by omega) ⟨fun j hj => match j, hj with | 0, _ => (((ri_frq Ch112 (k := 119) (d := 58) rfl rfl (by decide) (by decide +kernel)).trans (ri_ne wh111 (.inr (by omega))))).trans ((hD.1 0 (by decide)).trans (by rw [zgU_ne (by decide)])) | 1, _ => (((ri_frq Ch112 (k := 119) (d := 58) rfl rfl (by decide) (by decide +kernel)).trans (ri_ne wh111 (.inr (by omega))))).trans ((hD.1 1 (by decide)).trans (by rw [zgU_ne (by decide)])) | 2, _ => (((ri_frq Ch112 (k := 119) (d := 58) rfl rfl (by decide) (by decide +kernel)).trans (ri_ne wh111 (.inr (by omega))))).trans ((hD.1 2 (by decide)).trans (by rw [zgU_ne (by decide)])) | 3, _ => (((ri_frq Ch112 (k := 119) (d := 58) rfl rfl (by decide) (by decide +kernel)).trans (ri_ne wh111 (.inr (by omega))))).trans ((hD.1 3 (by decide)).trans (by rw [zgU_ne (by decide)])) | 4, _ => (((ri_frq Ch112 (k := 119) (d := 58) rfl rfl (by decide) (by decide +kernel)).trans (ri_ne wh111 (.inr (by omega))))).trans ((hD.1 4 (by decide)).trans (by rw [zgU_ne (by decide)])) | 5, _ => (((ri_frq Ch112 (k := 119) (d := 58) rfl rfl (by decide) (by decide +kernel)).trans (ri_ne wh111 (.inr (by omega))))).trans ((hD.1 5 (by decide)).trans (by rw [zgU_ne (by decide)])) | 6, _ => (((ri_frq Ch112 (k := 119) (d := 58) rfl rfl (by decide) (by decide +kernel)).trans (ri_ne wh111 (.inr (by omega))))).trans ((hD.1 6 (by decide)).trans (by rw [zgU_ne (by decide)])) | 7, _ => (((ri_frq Ch112 (k := 119) (d := 58) rfl rfl (by decide) (by decide +kernel)).trans (ri_ne wh111 (.inr (by omega))))).trans ((hD.1 7 (by decide)).trans (by rw [zgU_ne (by decide)])) | 8, _ => (((ri_frq Ch112 (k := 119) (d := 58) rfl rfl (by decide) (by decide +kernel)).trans (ri_ne wh111 (.inr (by omega))))).trans ((hD.1 8 (by decide)).trans (by rw [zgU_ne (by decide)])) | 9, _ => (((ri_frq Ch112 (k := 119) (d := 58) rfl rfl (by decide) (by decide +kernel)).trans (ri_self wh111))).trans ((show x110.toInt = (if zw t n p = 28 then 1 else 2) from by first | (rw [if_pos (by omega)]; omega) | (rw [if_neg (by omega)]; omega)).trans zgU_eq.symm) | 10, _ => (((ri_frq Ch112 (k := 119) (d := 58) rfl rfl (by decide) (by decide +kernel)).trans (ri_ne wh111 (.inr (by omega))))).trans ((hD.1 10 (by decide)).trans (by rw [zgU_ne (by decide)])) | 11, _ => (((ri_frq Ch112 (k := 119) (d := 58) rfl rfl (by decide) (by decide +kernel)).trans (ri_ne wh111 (.inr (by omega))))).trans ((hD.1 11 (by decide)).trans (by rw [zgU_ne (by decide)])) | 12, _ => (((ri_frq Ch112 (k := 119) (d := 58) rfl rfl (by decide) (by decide +kernel)).trans (ri_ne wh111 (.inr (by omega))))).trans ((hD.1 12 (by decide)).trans (by rw [zgU_ne (by decide)])) | 13, _ => (((ri_frq Ch112 (k := 119) (d := 58) rfl rfl (by decide) (by decide +kernel)).trans (ri_ne wh111 (.inr (by omega))))).trans ((hD.1 13 (by decide)).trans (by rw [zgU_ne (by decide)])) | j + 14, hj => absurd hj (by omega), fun j hj => (((ri_frr Ch112 (k := 120) (d := 59) rfl rfl (by decide +kernel)).trans (ri_ne wh111 (.inl (by decide))))).trans ((hD.2 j hj).trans (by rw [zgU_ne (by omega)]))⟩ ⟨fun i hi => ((ri_frq Ch112 (k := 119) (d := 58) rfl rfl (by decide) (by decide +kernel)).trans (ri_ne wh111 (.inr (by omega)))), fun i hi => ((ri_frr Ch112 (k := 120) (d := 59) rfl rfl (by decide +kernel)).trans (ri_ne wh111 (.inl (by decide))))⟩)
        · replace c109 : ¬ x108.toInt = 0 := by omega
          obtain ⟨_, dx108, dx108b⟩ := isin_y dx108 c109
          refine ex_ic oq_X12_hasRead_134 (m := 1) (by decide) (fun x114 hx114 => ?_)
          refine ex_go oq_X12_hasRead_135 (t := 139) rfl rfl ?_
          refine ex_iw oq_X12_hasRead_139 hT (k := 119) (d := 58) (j := b + 9) rfl rfl (by omega) (by omega) (fun r hr => gh_get hr _ (cw_i32 _)) (fun h115 Th115 wh115 => ?_)
          have Fh115 : cw_Fr cw_Ds cw_sh mk_gt h0 h115 := cw_Fr_tr Fh0 (cw_Fr_wrr wh115 (k := 119) (d := 58) rfl rfl (by decide +kernel))
          have eh115_111_4 : ri_at h115 111 4 = ri_at h0 111 4 := ri_ne wh115 (.inl (by decide))
          have eh115_111_5 : ri_at h115 111 5 = ri_at h0 111 5 := ri_ne wh115 (.inl (by decide))
          have eh115_111_6 : ri_at h115 111 6 = (n : Int) := (ri_ne wh115 (.inl (by decide))).trans z1
          have eh115_111_7 : ri_at h115 111 7 = ((zx t n p : Nat) : Int) := (ri_ne wh115 (.inl (by decide))).trans z3
          have eh115_111_8 : ri_at h115 111 8 = zk t n p := (ri_ne wh115 (.inl (by decide))).trans z4
          have eh115_111_10 : ri_at h115 111 10 = ((za t n p : Nat) : Int) := (ri_ne wh115 (.inl (by decide))).trans z2
          have eh115_111_11 : ri_at h115 111 11 = ri_at h0 111 11 := ri_ne wh115 (.inl (by decide))
          have eh115_111_16 : ri_at h115 111 16 = (u : Int) := (ri_ne wh115 (.inl (by decide))).trans hgr
          have eh115_r1 : ri_at h115 119 (b + 1) = hh := (ri_ne wh115 (.inr (by omega))).trans hg1
          have Zh115 := zR_wr wh115 hz (.inl (by decide))
          refine ex_al oq_X12_hasRead_140 rfl ?_
          refine ex_cv oq_X12_hasRead_141 (by decide) Th115 (k := 111) (d := 12) (as := []) (stk := []) rfl rfl rfl rfl rfl rfl ⟨rfl, rfl⟩ (R := fun o => ∃ hb : cv_H, o = (none, hb) ∧ cw_T G hb ∧ cw_Fr cw_Ds cw_sh kk_X12_token.2.2.2.2.2.1 h115 hb ∧ zR t n (zx t n p) hb) (rt_tok (t := t) (n := n) (p := (zx t n p)) (fun i hi => by rw [ht i hi, ← hA _ Fh115]) hn9 (fun i hi => by rw [hB _ Fh115]; exact hwr i hi) Th115 (zx_le (by omega)) (by omega) (by omega) (fun hb b1 b2 b3 => ⟨hb, rfl, b1, b2, b3⟩)) (fun o ho => ?_)
          obtain ⟨h116, rfl, Th116, Ch116, Zh116⟩ := ho
          show cw_X _ _ _ _ _ [] h116
          have Fh116 : cw_Fr cw_Ds cw_sh mk_gt h0 h116 := cw_Fr_tr Fh115 (cw_Fr_mono (by decide +kernel) Ch116)
          have eh116_111_4 : ri_at h116 111 4 = ri_at h0 111 4 := (ri_frf Ch116 (d := 12) rfl rfl (by decide +kernel)).trans eh115_111_4
          clear eh115_111_4
          have eh116_111_5 : ri_at h116 111 5 = ri_at h0 111 5 := (ri_frf Ch116 (d := 12) rfl rfl (by decide +kernel)).trans eh115_111_5
          clear eh115_111_5
          have eh116_111_11 : ri_at h116 111 11 = ri_at h0 111 11 := (ri_frf Ch116 (d := 12) rfl rfl (by decide +kernel)).trans eh115_111_11
          clear eh115_111_11
          have eh116_111_16 : ri_at h116 111 16 = (u : Int) := (ri_frf Ch116 (d := 12) rfl rfl (by decide +kernel)).trans eh115_111_16
          clear eh115_111_16
          have eh116_r1 : ri_at h116 119 (b + 1) = hh := (ri_frq Ch116 (k := 119) (d := 58) rfl rfl (by decide) (by decide +kernel)).trans eh115_r1
          clear eh115_r1
          obtain ⟨yah116, ybh116, ych116, ydh116, -⟩ := id Zh116
          have zlh116 := zx_le (t := t) (n := n) (p := (zx t n p)) (by omega)
          clear eh115_111_6 eh115_111_10 eh115_111_7 eh115_111_8
          refine ex_ic oq_X12_hasRead_144 (m := 1) (by decide) (fun x117 hx117 => ?_)
          exact ex_retb oq_X12_hasRead_145 rfl (by omega) (by omega) (hQ x117 h116 Th116 Fh116 (by omega) ⟨fun j hj => match j, hj with | 0, _ => (((ri_frq Ch116 (k := 119) (d := 58) rfl rfl (by decide) (by decide +kernel)).trans (ri_ne wh115 (.inr (by omega))))).trans ((hD.1 0 (by decide)).trans (by rw [zgU_ne (by decide)])) | 1, _ => (((ri_frq Ch116 (k := 119) (d := 58) rfl rfl (by decide) (by decide +kernel)).trans (ri_ne wh115 (.inr (by omega))))).trans ((hD.1 1 (by decide)).trans (by rw [zgU_ne (by decide)])) | 2, _ => (((ri_frq Ch116 (k := 119) (d := 58) rfl rfl (by decide) (by decide +kernel)).trans (ri_ne wh115 (.inr (by omega))))).trans ((hD.1 2 (by decide)).trans (by rw [zgU_ne (by decide)])) | 3, _ => (((ri_frq Ch116 (k := 119) (d := 58) rfl rfl (by decide) (by decide +kernel)).trans (ri_ne wh115 (.inr (by omega))))).trans ((hD.1 3 (by decide)).trans (by rw [zgU_ne (by decide)])) | 4, _ => (((ri_frq Ch116 (k := 119) (d := 58) rfl rfl (by decide) (by decide +kernel)).trans (ri_ne wh115 (.inr (by omega))))).trans ((hD.1 4 (by decide)).trans (by rw [zgU_ne (by decide)])) | 5, _ => (((ri_frq Ch116 (k := 119) (d := 58) rfl rfl (by decide) (by decide +kernel)).trans (ri_ne wh115 (.inr (by omega))))).trans ((hD.1 5 (by decide)).trans (by rw [zgU_ne (by decide)])) | 6, _ => (((ri_frq Ch116 (k := 119) (d := 58) rfl rfl (by decide) (by decide +kernel)).trans (ri_ne wh115 (.inr (by omega))))).trans ((hD.1 6 (by decide)).trans (by rw [zgU_ne (by decide)])) | 7, _ => (((ri_frq Ch116 (k := 119) (d := 58) rfl rfl (by decide) (by decide +kernel)).trans (ri_ne wh115 (.inr (by omega))))).trans ((hD.1 7 (by decide)).trans (by rw [zgU_ne (by decide)])) | 8, _ => (((ri_frq Ch116 (k := 119) (d := 58) rfl rfl (by decide) (by decide +kernel)).trans (ri_ne wh115 (.inr (by omega))))).trans ((hD.1 8 (by decide)).trans (by rw [zgU_ne (by decide)])) | 9, _ => (((ri_frq Ch116 (k := 119) (d := 58) rfl rfl (by decide) (by decide +kernel)).trans (ri_self wh115))).trans ((show x114.toInt = (if zw t n p = 28 then 1 else 2) from by first | (rw [if_pos (by omega)]; omega) | (rw [if_neg (by omega)]; omega)).trans zgU_eq.symm) | 10, _ => (((ri_frq Ch116 (k := 119) (d := 58) rfl rfl (by decide) (by decide +kernel)).trans (ri_ne wh115 (.inr (by omega))))).trans ((hD.1 10 (by decide)).trans (by rw [zgU_ne (by decide)])) | 11, _ => (((ri_frq Ch116 (k := 119) (d := 58) rfl rfl (by decide) (by decide +kernel)).trans (ri_ne wh115 (.inr (by omega))))).trans ((hD.1 11 (by decide)).trans (by rw [zgU_ne (by decide)])) | 12, _ => (((ri_frq Ch116 (k := 119) (d := 58) rfl rfl (by decide) (by decide +kernel)).trans (ri_ne wh115 (.inr (by omega))))).trans ((hD.1 12 (by decide)).trans (by rw [zgU_ne (by decide)])) | 13, _ => (((ri_frq Ch116 (k := 119) (d := 58) rfl rfl (by decide) (by decide +kernel)).trans (ri_ne wh115 (.inr (by omega))))).trans ((hD.1 13 (by decide)).trans (by rw [zgU_ne (by decide)])) | j + 14, hj => absurd hj (by omega), fun j hj => (((ri_frr Ch116 (k := 120) (d := 59) rfl rfl (by decide +kernel)).trans (ri_ne wh115 (.inl (by decide))))).trans ((hD.2 j hj).trans (by rw [zgU_ne (by omega)]))⟩ ⟨fun i hi => ((ri_frq Ch116 (k := 119) (d := 58) rfl rfl (by decide) (by decide +kernel)).trans (ri_ne wh115 (.inr (by omega)))), fun i hi => ((ri_frr Ch116 (k := 120) (d := 59) rfl rfl (by decide +kernel)).trans (ri_ne wh115 (.inl (by decide))))⟩)
      · replace c104 : x103.toInt = 0 := by omega
        replace dx103 := flag_n dx103 c104
        refine ex_al oq_X12_hasRead_102 rfl ?_
        refine ex_bi oq_X12_hasRead_103 (m := 29) (by decide) (fun x118 hx118 => ?_)
        refine ex_cv oq_X12_hasRead_105 (by decide) hT (k := 111) (d := 12) (as := [cv_i x118]) (stk := []) rfl rfl rfl rfl rfl rfl ⟨rfl, rfl⟩ (R := fun o => ∃ x : Int32, o = (some (cv_i x), h0) ∧ (x.toInt = 1 ∧ zk t n p = 1 ∧ zw t n p = x118.toInt ∨ x.toInt = 0 ∧ ¬ (zk t n p = 1 ∧ zw t n p = x118.toInt))) (rt_isKey (t := t) (n := n) (p := p) hT (by exact hz) x118 (fun x q => ⟨x, rfl, q⟩)) (fun o ho => ?_)
        obtain ⟨x119, rfl, dx119⟩ := ho
        show cw_X _ _ _ _ _ [cv_i x119] h0
        rw [hx118] at dx119
        refine ex_if0 oq_X12_hasRead_108 (t := 117) rfl rfl (fun (c120 : ¬ x119.toInt = 0) => ?_) (fun (c120 : ¬ (¬ x119.toInt = 0)) => ?_)
        · obtain ⟨_, dx119, dx119b⟩ := isin_y dx119 c120
          refine ex_al oq_X12_hasRead_117 rfl ?_
          refine ex_gf oq_X12_hasRead_118 hT (k := 111) (d := 12) rfl rfl (fr_gateHas hT) ?_
          refine ex_il oq_X12_hasRead_121 rfl ?_
          refine ex_bi oq_X12_hasRead_122 (m := 9) (by decide) (fun x121 hx121 => ?_)
          refine ex_add oq_X12_hasRead_124 (by omega) (fun x122 hx122 => ?_)
          refine ex_al oq_X12_hasRead_125 rfl ?_
          refine ex_bi oq_X12_hasRead_126 (m := 28) (by decide) (fun x123 hx123 => ?_)
          refine ex_cv oq_X12_hasRead_128 (by decide) hT (k := 111) (d := 12) (as := [cv_i x123]) (stk := [cv_i x122, cv_r 119]) rfl rfl rfl rfl rfl rfl ⟨rfl, rfl⟩ (R := fun o => ∃ x : Int32, o = (some (cv_i x), h0) ∧ (x.toInt = 1 ∧ zk t n p = 1 ∧ zw t n p = x123.toInt ∨ x.toInt = 0 ∧ ¬ (zk t n p = 1 ∧ zw t n p = x123.toInt))) (rt_isKey (t := t) (n := n) (p := p) hT (by exact hz) x123 (fun x q => ⟨x, rfl, q⟩)) (fun o ho => ?_)
          obtain ⟨x124, rfl, dx124⟩ := ho
          show cw_X _ _ _ _ _ [cv_i x124, cv_i x122, cv_r 119] h0
          rw [hx123] at dx124
          refine ex_if0 oq_X12_hasRead_131 (t := 138) rfl rfl (fun (c125 : x124.toInt = 0) => ?_) (fun (c125 : ¬ (x124.toInt = 0)) => ?_)
          · replace dx124 := flag_n dx124 c125
            refine ex_ic oq_X12_hasRead_138 (m := 2) (by decide) (fun x126 hx126 => ?_)
            refine ex_iw oq_X12_hasRead_139 hT (k := 119) (d := 58) (j := b + 9) rfl rfl (by omega) (by omega) (fun r hr => gh_get hr _ (cw_i32 _)) (fun h127 Th127 wh127 => ?_)
            have Fh127 : cw_Fr cw_Ds cw_sh mk_gt h0 h127 := cw_Fr_tr Fh0 (cw_Fr_wrr wh127 (k := 119) (d := 58) rfl rfl (by decide +kernel))
            have eh127_111_4 : ri_at h127 111 4 = ri_at h0 111 4 := ri_ne wh127 (.inl (by decide))
            have eh127_111_5 : ri_at h127 111 5 = ri_at h0 111 5 := ri_ne wh127 (.inl (by decide))
            have eh127_111_6 : ri_at h127 111 6 = (n : Int) := (ri_ne wh127 (.inl (by decide))).trans z1
            have eh127_111_7 : ri_at h127 111 7 = ((zx t n p : Nat) : Int) := (ri_ne wh127 (.inl (by decide))).trans z3
            have eh127_111_8 : ri_at h127 111 8 = zk t n p := (ri_ne wh127 (.inl (by decide))).trans z4
            have eh127_111_10 : ri_at h127 111 10 = ((za t n p : Nat) : Int) := (ri_ne wh127 (.inl (by decide))).trans z2
            have eh127_111_11 : ri_at h127 111 11 = ri_at h0 111 11 := ri_ne wh127 (.inl (by decide))
            have eh127_111_16 : ri_at h127 111 16 = (u : Int) := (ri_ne wh127 (.inl (by decide))).trans hgr
            have eh127_r1 : ri_at h127 119 (b + 1) = hh := (ri_ne wh127 (.inr (by omega))).trans hg1
            have Zh127 := zR_wr wh127 hz (.inl (by decide))
            refine ex_al oq_X12_hasRead_140 rfl ?_
            refine ex_cv oq_X12_hasRead_141 (by decide) Th127 (k := 111) (d := 12) (as := []) (stk := []) rfl rfl rfl rfl rfl rfl ⟨rfl, rfl⟩ (R := fun o => ∃ hb : cv_H, o = (none, hb) ∧ cw_T G hb ∧ cw_Fr cw_Ds cw_sh kk_X12_token.2.2.2.2.2.1 h127 hb ∧ zR t n (zx t n p) hb) (rt_tok (t := t) (n := n) (p := (zx t n p)) (fun i hi => by rw [ht i hi, ← hA _ Fh127]) hn9 (fun i hi => by rw [hB _ Fh127]; exact hwr i hi) Th127 (zx_le (by omega)) (by omega) (by omega) (fun hb b1 b2 b3 => ⟨hb, rfl, b1, b2, b3⟩)) (fun o ho => ?_)
            obtain ⟨h128, rfl, Th128, Ch128, Zh128⟩ := ho
            show cw_X _ _ _ _ _ [] h128
            have Fh128 : cw_Fr cw_Ds cw_sh mk_gt h0 h128 := cw_Fr_tr Fh127 (cw_Fr_mono (by decide +kernel) Ch128)
            have eh128_111_4 : ri_at h128 111 4 = ri_at h0 111 4 := (ri_frf Ch128 (d := 12) rfl rfl (by decide +kernel)).trans eh127_111_4
            clear eh127_111_4
            have eh128_111_5 : ri_at h128 111 5 = ri_at h0 111 5 := (ri_frf Ch128 (d := 12) rfl rfl (by decide +kernel)).trans eh127_111_5
            clear eh127_111_5
            have eh128_111_11 : ri_at h128 111 11 = ri_at h0 111 11 := (ri_frf Ch128 (d := 12) rfl rfl (by decide +kernel)).trans eh127_111_11
            clear eh127_111_11
            have eh128_111_16 : ri_at h128 111 16 = (u : Int) := (ri_frf Ch128 (d := 12) rfl rfl (by decide +kernel)).trans eh127_111_16
            clear eh127_111_16
            have eh128_r1 : ri_at h128 119 (b + 1) = hh := (ri_frq Ch128 (k := 119) (d := 58) rfl rfl (by decide) (by decide +kernel)).trans eh127_r1
            clear eh127_r1
            obtain ⟨yah128, ybh128, ych128, ydh128, -⟩ := id Zh128
            have zlh128 := zx_le (t := t) (n := n) (p := (zx t n p)) (by omega)
            clear eh127_111_6 eh127_111_10 eh127_111_7 eh127_111_8
            refine ex_ic oq_X12_hasRead_144 (m := 1) (by decide) (fun x129 hx129 => ?_)
            exact ex_retb oq_X12_hasRead_145 rfl (by omega) (by omega) (hQ x129 h128 Th128 Fh128 (by omega) ⟨fun j hj => match j, hj with | 0, _ => (((ri_frq Ch128 (k := 119) (d := 58) rfl rfl (by decide) (by decide +kernel)).trans (ri_ne wh127 (.inr (by omega))))).trans ((hD.1 0 (by decide)).trans (by rw [zgU_ne (by decide)])) | 1, _ => (((ri_frq Ch128 (k := 119) (d := 58) rfl rfl (by decide) (by decide +kernel)).trans (ri_ne wh127 (.inr (by omega))))).trans ((hD.1 1 (by decide)).trans (by rw [zgU_ne (by decide)])) | 2, _ => (((ri_frq Ch128 (k := 119) (d := 58) rfl rfl (by decide) (by decide +kernel)).trans (ri_ne wh127 (.inr (by omega))))).trans ((hD.1 2 (by decide)).trans (by rw [zgU_ne (by decide)])) | 3, _ => (((ri_frq Ch128 (k := 119) (d := 58) rfl rfl (by decide) (by decide +kernel)).trans (ri_ne wh127 (.inr (by omega))))).trans ((hD.1 3 (by decide)).trans (by rw [zgU_ne (by decide)])) | 4, _ => (((ri_frq Ch128 (k := 119) (d := 58) rfl rfl (by decide) (by decide +kernel)).trans (ri_ne wh127 (.inr (by omega))))).trans ((hD.1 4 (by decide)).trans (by rw [zgU_ne (by decide)])) | 5, _ => (((ri_frq Ch128 (k := 119) (d := 58) rfl rfl (by decide) (by decide +kernel)).trans (ri_ne wh127 (.inr (by omega))))).trans ((hD.1 5 (by decide)).trans (by rw [zgU_ne (by decide)])) | 6, _ => (((ri_frq Ch128 (k := 119) (d := 58) rfl rfl (by decide) (by decide +kernel)).trans (ri_ne wh127 (.inr (by omega))))).trans ((hD.1 6 (by decide)).trans (by rw [zgU_ne (by decide)])) | 7, _ => (((ri_frq Ch128 (k := 119) (d := 58) rfl rfl (by decide) (by decide +kernel)).trans (ri_ne wh127 (.inr (by omega))))).trans ((hD.1 7 (by decide)).trans (by rw [zgU_ne (by decide)])) | 8, _ => (((ri_frq Ch128 (k := 119) (d := 58) rfl rfl (by decide) (by decide +kernel)).trans (ri_ne wh127 (.inr (by omega))))).trans ((hD.1 8 (by decide)).trans (by rw [zgU_ne (by decide)])) | 9, _ => (((ri_frq Ch128 (k := 119) (d := 58) rfl rfl (by decide) (by decide +kernel)).trans (ri_self wh127))).trans ((show x126.toInt = (if zw t n p = 28 then 1 else 2) from by first | (rw [if_pos (by omega)]; omega) | (rw [if_neg (by omega)]; omega)).trans zgU_eq.symm) | 10, _ => (((ri_frq Ch128 (k := 119) (d := 58) rfl rfl (by decide) (by decide +kernel)).trans (ri_ne wh127 (.inr (by omega))))).trans ((hD.1 10 (by decide)).trans (by rw [zgU_ne (by decide)])) | 11, _ => (((ri_frq Ch128 (k := 119) (d := 58) rfl rfl (by decide) (by decide +kernel)).trans (ri_ne wh127 (.inr (by omega))))).trans ((hD.1 11 (by decide)).trans (by rw [zgU_ne (by decide)])) | 12, _ => (((ri_frq Ch128 (k := 119) (d := 58) rfl rfl (by decide) (by decide +kernel)).trans (ri_ne wh127 (.inr (by omega))))).trans ((hD.1 12 (by decide)).trans (by rw [zgU_ne (by decide)])) | 13, _ => (((ri_frq Ch128 (k := 119) (d := 58) rfl rfl (by decide) (by decide +kernel)).trans (ri_ne wh127 (.inr (by omega))))).trans ((hD.1 13 (by decide)).trans (by rw [zgU_ne (by decide)])) | j + 14, hj => absurd hj (by omega), fun j hj => (((ri_frr Ch128 (k := 120) (d := 59) rfl rfl (by decide +kernel)).trans (ri_ne wh127 (.inl (by decide))))).trans ((hD.2 j hj).trans (by rw [zgU_ne (by omega)]))⟩ ⟨fun i hi => ((ri_frq Ch128 (k := 119) (d := 58) rfl rfl (by decide) (by decide +kernel)).trans (ri_ne wh127 (.inr (by omega)))), fun i hi => ((ri_frr Ch128 (k := 120) (d := 59) rfl rfl (by decide +kernel)).trans (ri_ne wh127 (.inl (by decide))))⟩)
          · replace c125 : ¬ x124.toInt = 0 := by omega
            obtain ⟨_, dx124, dx124b⟩ := isin_y dx124 c125
            refine ex_ic oq_X12_hasRead_134 (m := 1) (by decide) (fun x130 hx130 => ?_)
            refine ex_go oq_X12_hasRead_135 (t := 139) rfl rfl ?_
            refine ex_iw oq_X12_hasRead_139 hT (k := 119) (d := 58) (j := b + 9) rfl rfl (by omega) (by omega) (fun r hr => gh_get hr _ (cw_i32 _)) (fun h131 Th131 wh131 => ?_)
            have Fh131 : cw_Fr cw_Ds cw_sh mk_gt h0 h131 := cw_Fr_tr Fh0 (cw_Fr_wrr wh131 (k := 119) (d := 58) rfl rfl (by decide +kernel))
            have eh131_111_4 : ri_at h131 111 4 = ri_at h0 111 4 := ri_ne wh131 (.inl (by decide))
            have eh131_111_5 : ri_at h131 111 5 = ri_at h0 111 5 := ri_ne wh131 (.inl (by decide))
            have eh131_111_6 : ri_at h131 111 6 = (n : Int) := (ri_ne wh131 (.inl (by decide))).trans z1
            have eh131_111_7 : ri_at h131 111 7 = ((zx t n p : Nat) : Int) := (ri_ne wh131 (.inl (by decide))).trans z3
            have eh131_111_8 : ri_at h131 111 8 = zk t n p := (ri_ne wh131 (.inl (by decide))).trans z4
            have eh131_111_10 : ri_at h131 111 10 = ((za t n p : Nat) : Int) := (ri_ne wh131 (.inl (by decide))).trans z2
            have eh131_111_11 : ri_at h131 111 11 = ri_at h0 111 11 := ri_ne wh131 (.inl (by decide))
            have eh131_111_16 : ri_at h131 111 16 = (u : Int) := (ri_ne wh131 (.inl (by decide))).trans hgr
            have eh131_r1 : ri_at h131 119 (b + 1) = hh := (ri_ne wh131 (.inr (by omega))).trans hg1
            have Zh131 := zR_wr wh131 hz (.inl (by decide))
            refine ex_al oq_X12_hasRead_140 rfl ?_
            refine ex_cv oq_X12_hasRead_141 (by decide) Th131 (k := 111) (d := 12) (as := []) (stk := []) rfl rfl rfl rfl rfl rfl ⟨rfl, rfl⟩ (R := fun o => ∃ hb : cv_H, o = (none, hb) ∧ cw_T G hb ∧ cw_Fr cw_Ds cw_sh kk_X12_token.2.2.2.2.2.1 h131 hb ∧ zR t n (zx t n p) hb) (rt_tok (t := t) (n := n) (p := (zx t n p)) (fun i hi => by rw [ht i hi, ← hA _ Fh131]) hn9 (fun i hi => by rw [hB _ Fh131]; exact hwr i hi) Th131 (zx_le (by omega)) (by omega) (by omega) (fun hb b1 b2 b3 => ⟨hb, rfl, b1, b2, b3⟩)) (fun o ho => ?_)
            obtain ⟨h132, rfl, Th132, Ch132, Zh132⟩ := ho
            show cw_X _ _ _ _ _ [] h132
            have Fh132 : cw_Fr cw_Ds cw_sh mk_gt h0 h132 := cw_Fr_tr Fh131 (cw_Fr_mono (by decide +kernel) Ch132)
            have eh132_111_4 : ri_at h132 111 4 = ri_at h0 111 4 := (ri_frf Ch132 (d := 12) rfl rfl (by decide +kernel)).trans eh131_111_4
            clear eh131_111_4
            have eh132_111_5 : ri_at h132 111 5 = ri_at h0 111 5 := (ri_frf Ch132 (d := 12) rfl rfl (by decide +kernel)).trans eh131_111_5
            clear eh131_111_5
            have eh132_111_11 : ri_at h132 111 11 = ri_at h0 111 11 := (ri_frf Ch132 (d := 12) rfl rfl (by decide +kernel)).trans eh131_111_11
            clear eh131_111_11
            have eh132_111_16 : ri_at h132 111 16 = (u : Int) := (ri_frf Ch132 (d := 12) rfl rfl (by decide +kernel)).trans eh131_111_16
            clear eh131_111_16
            have eh132_r1 : ri_at h132 119 (b + 1) = hh := (ri_frq Ch132 (k := 119) (d := 58) rfl rfl (by decide) (by decide +kernel)).trans eh131_r1
            clear eh131_r1
            obtain ⟨yah132, ybh132, ych132, ydh132, -⟩ := id Zh132
            have zlh132 := zx_le (t := t) (n := n) (p := (zx t n p)) (by omega)
            clear eh131_111_6 eh131_111_10 eh131_111_7 eh131_111_8
            refine ex_ic oq_X12_hasRead_144 (m := 1) (by decide) (fun x133 hx133 => ?_)
            exact ex_retb oq_X12_hasRead_145 rfl (by omega) (by omega) (hQ x133 h132 Th132 Fh132 (by omega) ⟨fun j hj => match j, hj with | 0, _ => (((ri_frq Ch132 (k := 119) (d := 58) rfl rfl (by decide) (by decide +kernel)).trans (ri_ne wh131 (.inr (by omega))))).trans ((hD.1 0 (by decide)).trans (by rw [zgU_ne (by decide)])) | 1, _ => (((ri_frq Ch132 (k := 119) (d := 58) rfl rfl (by decide) (by decide +kernel)).trans (ri_ne wh131 (.inr (by omega))))).trans ((hD.1 1 (by decide)).trans (by rw [zgU_ne (by decide)])) | 2, _ => (((ri_frq Ch132 (k := 119) (d := 58) rfl rfl (by decide) (by decide +kernel)).trans (ri_ne wh131 (.inr (by omega))))).trans ((hD.1 2 (by decide)).trans (by rw [zgU_ne (by decide)])) | 3, _ => (((ri_frq Ch132 (k := 119) (d := 58) rfl rfl (by decide) (by decide +kernel)).trans (ri_ne wh131 (.inr (by omega))))).trans ((hD.1 3 (by decide)).trans (by rw [zgU_ne (by decide)])) | 4, _ => (((ri_frq Ch132 (k := 119) (d := 58) rfl rfl (by decide) (by decide +kernel)).trans (ri_ne wh131 (.inr (by omega))))).trans ((hD.1 4 (by decide)).trans (by rw [zgU_ne (by decide)])) | 5, _ => (((ri_frq Ch132 (k := 119) (d := 58) rfl rfl (by decide) (by decide +kernel)).trans (ri_ne wh131 (.inr (by omega))))).trans ((hD.1 5 (by decide)).trans (by rw [zgU_ne (by decide)])) | 6, _ => (((ri_frq Ch132 (k := 119) (d := 58) rfl rfl (by decide) (by decide +kernel)).trans (ri_ne wh131 (.inr (by omega))))).trans ((hD.1 6 (by decide)).trans (by rw [zgU_ne (by decide)])) | 7, _ => (((ri_frq Ch132 (k := 119) (d := 58) rfl rfl (by decide) (by decide +kernel)).trans (ri_ne wh131 (.inr (by omega))))).trans ((hD.1 7 (by decide)).trans (by rw [zgU_ne (by decide)])) | 8, _ => (((ri_frq Ch132 (k := 119) (d := 58) rfl rfl (by decide) (by decide +kernel)).trans (ri_ne wh131 (.inr (by omega))))).trans ((hD.1 8 (by decide)).trans (by rw [zgU_ne (by decide)])) | 9, _ => (((ri_frq Ch132 (k := 119) (d := 58) rfl rfl (by decide) (by decide +kernel)).trans (ri_self wh131))).trans ((show x130.toInt = (if zw t n p = 28 then 1 else 2) from by first | (rw [if_pos (by omega)]; omega) | (rw [if_neg (by omega)]; omega)).trans zgU_eq.symm) | 10, _ => (((ri_frq Ch132 (k := 119) (d := 58) rfl rfl (by decide) (by decide +kernel)).trans (ri_ne wh131 (.inr (by omega))))).trans ((hD.1 10 (by decide)).trans (by rw [zgU_ne (by decide)])) | 11, _ => (((ri_frq Ch132 (k := 119) (d := 58) rfl rfl (by decide) (by decide +kernel)).trans (ri_ne wh131 (.inr (by omega))))).trans ((hD.1 11 (by decide)).trans (by rw [zgU_ne (by decide)])) | 12, _ => (((ri_frq Ch132 (k := 119) (d := 58) rfl rfl (by decide) (by decide +kernel)).trans (ri_ne wh131 (.inr (by omega))))).trans ((hD.1 12 (by decide)).trans (by rw [zgU_ne (by decide)])) | 13, _ => (((ri_frq Ch132 (k := 119) (d := 58) rfl rfl (by decide) (by decide +kernel)).trans (ri_ne wh131 (.inr (by omega))))).trans ((hD.1 13 (by decide)).trans (by rw [zgU_ne (by decide)])) | j + 14, hj => absurd hj (by omega), fun j hj => (((ri_frr Ch132 (k := 120) (d := 59) rfl rfl (by decide +kernel)).trans (ri_ne wh131 (.inl (by decide))))).trans ((hD.2 j hj).trans (by rw [zgU_ne (by omega)]))⟩ ⟨fun i hi => ((ri_frq Ch132 (k := 119) (d := 58) rfl rfl (by decide) (by decide +kernel)).trans (ri_ne wh131 (.inr (by omega)))), fun i hi => ((ri_frr Ch132 (k := 120) (d := 59) rfl rfl (by decide +kernel)).trans (ri_ne wh131 (.inl (by decide))))⟩)
        · exfalso; omega
    | 3, _, c101 => exfalso; omega
    | 4, _, c101 => exfalso; omega
    | 5, _, c101 => exfalso; omega
    | 6, _, c101 => exfalso; omega
    | i + 7, hi, _ => exact absurd hi (by show ¬ i + 7 < 7; omega)
set_option maxHeartbeats 8000000 in
theorem rt_hasD5 {h0 : cv_H} {n p : Nat} (ht : ∀ i, i < n → t i = ri_at h0 112 i) (hn9 : n ≤ 900) (hT : cw_T G h0) (hwr : ∀ i, i < 177 → ri_at h0 113 i = pp_words.getD i 0) (hpn : p ≤ n) (hz : zR t n p h0) {b u : Nat} {g : Int32} (hg : g.toInt = b) (hb : b + 16 ≤ 128) (hu : u ≤ 3) (hgr : ri_at h0 111 16 = u) {hh : Int} (hg1 : ri_at h0 119 (b + 1) = hh) (hh2 : 24 ≤ hh ∧ hh ≤ 72) {D : Nat → Int} (hD : zKR h0 b u D) {w : Int32} (hw : w.toInt = 5) {vs : List Int} {q1 : Nat} (E1 : zns t n 0 200 9 p = .inr (vs, q1)) (hQ : ∀ (x : Int32) h', cw_T G h' → cw_Fr cw_Ds cw_sh mk_gt h0 h' → x.toInt = 1 → zKR h' b u (fun j => if 16 ≤ j then vs.getD (j - 16) 0 else D j) → zKB b u h0 h' → Q (some (cv_i x), h')) : cw_X X 180 Q 0 (cv_ent 0 [cv_r 111, cv_i g, cv_i w]) [] h0 := by
  have Fh0 : cw_Fr cw_Ds cw_sh mk_gt h0 h0 := cw_Fr_refl
  have zxl := zx_le (t := t) hpn
  obtain ⟨z1, z2, z3, z4, z5⟩ := id hz
  replace z5 := zhd_i z5
  have hA : ∀ h, cw_Fr cw_Ds cw_sh mk_gt h0 h → ∀ i, ri_at h 112 i = ri_at h0 112 i := fun h F i => ri_frr F (k := 112) (d := 51) rfl rfl (by decide +kernel)
  have hB : ∀ h, cw_Fr cw_Ds cw_sh mk_gt h0 h → ∀ i, ri_at h 113 i = ri_at h0 113 i := fun h F i => ri_frr F (k := 113) (d := 52) rfl rfl (by decide +kernel)
  refine ex_il oq_X12_hasRead_0 rfl ?_
  refine ex_tsw oq_X12_hasRead_1 rfl (fun c101 => ⟨rfl, ?_⟩) (fun i hi c101 => ?_)
  · exfalso; omega
  · match i, hi, c101 with
    | 0, _, c101 => exfalso; omega
    | 1, _, c101 => exfalso; omega
    | 2, _, c101 => exfalso; omega
    | 3, _, c101 => exfalso; omega
    | 4, _, c101 => exfalso; omega
    | 5, _, c101 =>
      refine ⟨rfl, ?_⟩
      show cw_X _ _ _ 182 _ _ _
      refine ex_al oq_X12_hasRead_182 rfl ?_
      refine ex_al oq_X12_hasRead_183 rfl ?_
      refine ex_gf oq_X12_hasRead_184 hT (k := 111) (d := 12) rfl rfl (fr_rise hT) ?_
      refine ex_bi oq_X12_hasRead_187 (m := 36) (by decide) (fun x102 hx102 => ?_)
      refine ex_bi oq_X12_hasRead_189 (m := 9) (by decide) (fun x103 hx103 => ?_)
      refine ex_al oq_X12_hasRead_191 rfl ?_
      obtain ⟨x104, ax104, rx104, lx104, ux104⟩ := fi_gatesRead hT
      refine ex_gf oq_X12_hasRead_192 hT (k := 111) (d := 12) rfl rfl ax104 ?_
      have rx104 := (rx104.symm.trans hgr : x104.toInt = (u : Int))
      refine ex_mul oq_X12_hasRead_195 (m := 9 * x104.toInt) (by rw [hx103]) (by omega) (fun x105 hx105 => ?_)
      refine ex_add oq_X12_hasRead_196 (by omega) (fun x106 hx106 => ?_)
      refine ex_bi oq_X12_hasRead_197 (m := 9) (by decide) (fun x107 hx107 => ?_)
      refine ex_ic oq_X12_hasRead_199 (m := 0) (by decide) (fun x108 hx108 => ?_)
      refine ex_si oq_X12_hasRead_200 (m := 200) (by decide) (fun x109 hx109 => ?_)
      refine ex_cv oq_X12_hasRead_203 (by decide) hT (k := 111) (d := 12) (as := [cv_r 120, cv_i x106, cv_i x107, cv_i x108, cv_i x109]) (stk := []) rfl rfl rfl rfl rfl rfl ⟨rfl, rfl⟩ (R := fun o => ∃ (x : Int32) (hb : cv_H), o = (some (cv_i x), hb) ∧ cw_T G hb ∧ cw_Fr cw_Ds cw_sh kk_X12_numbers_1.2.2.2.2.2.1 h0 hb ∧ zRe t n h0 hb x (zns t n x108.toInt x109.toInt 9 p) (fun vs => (∀ i, i < 9 → ri_at hb 120 (36 + 9 * u + i) = vs.getD i 0) ∧ ∀ i, (i < 36 + 9 * u ∨ 36 + 9 * u + 9 ≤ i) → ri_at hb 120 i = ri_at h0 120 i)) (rt_numbersS (t := t) (n := n) (p := p) (f := 36 + 9 * u) (m := 9) hT (by omega) hz (fun i hi => by rw [ht i hi, ← hA _ Fh0]) hn9 (fun i hi => by rw [hB _ Fh0]; exact hwr i hi) (by omega) (by omega) (by omega) (by omega) (by omega) (fun x hb b1 b2 b3 => ⟨x, hb, rfl, b1, b2, b3⟩)) (fun o ho => ?_)
      obtain ⟨x110, h111, rfl, Th111, Ch111, dx110⟩ := ho
      show cw_X _ _ _ _ _ [cv_i x110] h111
      have Fh111 : cw_Fr cw_Ds cw_sh mk_gt h0 h111 := cw_Fr_tr Fh0 (cw_Fr_mono (by decide +kernel) Ch111)
      rw [hx108, hx109] at dx110
      rw [E1] at dx110
      obtain ⟨wx110, lx110, Zh111, Dh111⟩ := zRe_r dx110
      clear dx110
      have eh111_111_16 : ri_at h111 111 16 = (u : Int) := (ri_frf Ch111 (d := 12) rfl rfl (by decide +kernel)).trans hgr
      have eh111_r1 : ri_at h111 119 (b + 1) = hh := (ri_frq Ch111 (k := 119) (d := 58) rfl rfl (by decide) (by decide +kernel)).trans hg1
      obtain ⟨yah111, ybh111, ych111, ydh111, -⟩ := id Zh111
      have zlh111 := zx_le (t := t) (n := n) (p := q1) (by omega)
      exact ex_retb oq_X12_hasRead_206 rfl (by omega) (by omega) (hQ x110 h111 Th111 Fh111 (by omega) ⟨fun j hj => ((ri_frq Ch111 (k := 119) (d := 58) rfl rfl (by decide) (by decide +kernel))).trans ((hD.1 j hj).trans (if_neg (by omega)).symm), fun j hj => (Dh111.1 j hj).trans ((if_pos (show 16 ≤ 16 + j by omega)).trans (congrArg (fun x => vs.getD x 0) (Nat.add_sub_cancel_left (n := 16) (m := j)))).symm⟩ ⟨fun i hi => (ri_frq Ch111 (k := 119) (d := 58) rfl rfl (by decide) (by decide +kernel)), fun i hi => Dh111.2 i (.inl hi)⟩)
    | 6, _, c101 => exfalso; omega
    | i + 7, hi, _ => exact absurd hi (by show ¬ i + 7 < 7; omega)
end TZ
