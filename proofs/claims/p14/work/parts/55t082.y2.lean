/-! ===== lines on causes and works, what they tell: the reference ===== -/
theorem zRe_r {α : Type} {t : Nat → Int} {n q : Nat} {h h' : cv_H} {x : Int32} {v : α} {D : α → Prop} (d : zRe t n h h' x (.inr (v, q)) D) : x.toInt = 1 ∧ q ≤ n ∧ zR t n q h' ∧ D v := by
  rcases d with ⟨v', q', e, e2, e3, e4, -, -, e7⟩ | ⟨f, a, e, -⟩
  · cases e; exact ⟨e3, e2, e4, e7⟩
  · cases e
section TZ
variable {G : Int} {X : cv_X} {Q : cv_O → Prop} {t : Nat → Int}
set_option maxHeartbeats 8000000 in
theorem rt_causeLineD {h0 : cv_H} {n p : Nat} (ht : ∀ i, i < n → t i = ri_at h0 112 i) (hn9 : n ≤ 900) (hT : cw_T G h0) (hwr : ∀ i, i < 177 → ri_at h0 113 i = pp_words.getD i 0) (hpn : p ≤ n) (hz : zR t n p h0) {l : List Int} (hc : ri_at h0 111 18 = l.length) (hlm : l.length < 6) (hl : ∀ k, k < l.length → ri_at h0 123 (6 + k) = l.getD k 0) {nm w k : Int} {p1 p2 p3 : Nat} (E1 : zm t n l (zx t n p) = .inr (nm, p1)) (E2 : zn t n 1 99 p1 = .inr (w, p2)) (E3 : zk t n p2 = 1 ∧ 5 ≤ zw t n p2 ∧ zw t n p2 ≤ 7) (E4 : zn t n 1 999 (zx t n p2) = .inr (k, p3)) (hQ : ∀ (x : Int32) h', cw_T G h' → cw_Fr cw_Ds cw_sh mk_ca h0 h' → ri_at h' 124 (18 + 3 * l.length) = w → ri_at h' 124 (18 + 3 * l.length + 1) = zw t n p2 - 5 → ri_at h' 124 (18 + 3 * l.length + 2) = k → (∀ j, j < 18 + 3 * l.length → ri_at h' 124 j = ri_at h0 124 j) → Q (some (cv_i x), h')) : cw_X X 186 Q 0 (cv_ent 0 [cv_r 111]) [] h0 := by
  have Fh0 : cw_Fr cw_Ds cw_sh mk_ca h0 h0 := cw_Fr_refl
  have zxl := zx_le (t := t) hpn
  obtain ⟨z1, z2, z3, z4, z5⟩ := id hz
  replace z5 := zhd_i z5
  have hA : ∀ h, cw_Fr cw_Ds cw_sh mk_ca h0 h → ∀ i, ri_at h 112 i = ri_at h0 112 i := fun h F i => ri_frr F (k := 112) (d := 51) rfl rfl (by decide +kernel)
  have hB : ∀ h, cw_Fr cw_Ds cw_sh mk_ca h0 h → ∀ i, ri_at h 113 i = ri_at h0 113 i := fun h F i => ri_frr F (k := 113) (d := 52) rfl rfl (by decide +kernel)
  refine ex_al oq_X12_causeLine_0 rfl ?_
  obtain ⟨x101, ax101, rx101, lx101, ux101⟩ := fi_causesRead hT
  refine ex_gf oq_X12_causeLine_1 hT (k := 111) (d := 12) rfl rfl ax101 ?_
  refine ex_bi oq_X12_causeLine_4 (m := 6) (by decide) (fun x102 hx102 => ?_)
  refine ex_if oq_X12_causeLine_6 (t := 15) rfl rfl (fun (c103 : ¬ x101.toInt = x102.toInt) => ?_) (fun (c103 : ¬ (¬ x101.toInt = x102.toInt)) => ?_)
  · refine ex_al oq_X12_causeLine_15 rfl ?_
    refine ex_cv oq_X12_causeLine_16 (by decide) hT (k := 111) (d := 12) (as := []) (stk := []) rfl rfl rfl rfl rfl rfl ⟨rfl, rfl⟩ (R := fun o => ∃ hb : cv_H, o = (none, hb) ∧ cw_T G hb ∧ cw_Fr cw_Ds cw_sh kk_X12_token.2.2.2.2.2.1 h0 hb ∧ zR t n (zx t n p) hb) (rt_tok (t := t) (n := n) (p := (zx t n p)) (fun i hi => by rw [ht i hi, ← hA _ Fh0]) hn9 (fun i hi => by rw [hB _ Fh0]; exact hwr i hi) hT (zx_le (by omega)) (by omega) (by omega) (fun hb b1 b2 b3 => ⟨hb, rfl, b1, b2, b3⟩)) (fun o ho => ?_)
    obtain ⟨h104, rfl, Th104, Ch104, Zh104⟩ := ho
    show cw_X _ _ _ _ _ [] h104
    have Fh104 : cw_Fr cw_Ds cw_sh mk_ca h0 h104 := cw_Fr_tr Fh0 (cw_Fr_mono (by decide +kernel) Ch104)
    have eh104_111_4 : ri_at h104 111 4 = ri_at h0 111 4 := ri_frf Ch104 (d := 12) rfl rfl (by decide +kernel)
    have eh104_111_5 : ri_at h104 111 5 = ri_at h0 111 5 := ri_frf Ch104 (d := 12) rfl rfl (by decide +kernel)
    have eh104_111_11 : ri_at h104 111 11 = ri_at h0 111 11 := ri_frf Ch104 (d := 12) rfl rfl (by decide +kernel)
    have eh104_111_18 : ri_at h104 111 18 = ri_at h0 111 18 := ri_frf Ch104 (d := 12) rfl rfl (by decide +kernel)
    obtain ⟨yah104, ybh104, ych104, ydh104, -⟩ := id Zh104
    have zlh104 := zx_le (t := t) (n := n) (p := (zx t n p)) (by omega)
    refine ex_al oq_X12_causeLine_19 rfl ?_
    refine ex_al oq_X12_causeLine_20 rfl ?_
    refine ex_gf oq_X12_causeLine_21 Th104 (k := 111) (d := 12) rfl rfl (fr_causeName Th104) ?_
    refine ex_bi oq_X12_causeLine_24 (m := 6) (by decide) (fun x105 hx105 => ?_)
    refine ex_al oq_X12_causeLine_26 rfl ?_
    obtain ⟨x106, ax106, rx106, lx106, ux106⟩ := fi_causesRead Th104
    refine ex_gf oq_X12_causeLine_27 Th104 (k := 111) (d := 12) rfl rfl ax106 ?_
    have rx106 := (rx106.symm.trans eh104_111_18 : x106.toInt = ri_at h0 111 18)
    have hlh104 : ∀ k, k < l.length → ri_at h104 123 (6 + k) = l.getD k 0 := fun k hk => by rw [show ri_at h104 123 (6 + k) = ri_at h0 123 (6 + k) from (ri_frr Ch104 (k := 123) (d := 62) rfl rfl (by decide +kernel))]; exact hl k hk
    refine ex_cv oq_X12_causeLine_30 (by decide) Th104 (k := 111) (d := 12) (as := [cv_r 123, cv_i x105, cv_i x106]) (stk := []) rfl rfl rfl rfl rfl rfl ⟨rfl, rfl⟩ (R := fun o => ∃ (x : Int32) (hb : cv_H), o = (some (cv_i x), hb) ∧ cw_T G hb ∧ cw_Fr cw_Ds cw_sh kk_X12_newName_2.2.2.2.2.2.1 h104 hb ∧ zRe t n h104 hb x (zm t n l (zx t n p)) (fun v => (∀ k, k < l.length → ri_at hb 123 (6 + k) = l.getD k 0) ∧ ri_at hb 123 (6 + l.length) = v)) (rt_newNameC (t := t) (n := n) (p := (zx t n p)) (l := l) (fun i hi => by rw [ht i hi, ← hA _ Fh104]) hn9 Th104 (fun i hi => by rw [hB _ Fh104]; exact hwr i hi) (by omega) Zh104 (by omega) (by omega) (by omega) hlh104 (fun x hb b1 b2 b3 => ⟨x, hb, rfl, b1, b2, b3⟩)) (fun o ho => ?_)
    obtain ⟨x107, h108, rfl, Th108, Ch108, dx107⟩ := ho
    show cw_X _ _ _ _ _ [cv_i x107] h108
    have Fh108 : cw_Fr cw_Ds cw_sh mk_ca h0 h108 := cw_Fr_tr Fh104 (cw_Fr_mono (by decide +kernel) Ch108)
    rw [E1] at dx107
    obtain ⟨wx107, lx107, Zh108, Dh108⟩ := zRe_r dx107
    clear dx107
    have eh108_111_18 : ri_at h108 111 18 = ri_at h0 111 18 := (ri_frf Ch108 (d := 12) rfl rfl (by decide +kernel)).trans eh104_111_18
    clear eh104_111_18
    obtain ⟨yah108, ybh108, ych108, ydh108, -⟩ := id Zh108
    have zlh108 := zx_le (t := t) (n := n) (p := p1) (by omega)
    clear yah104 ybh104 ych104 ydh104
    refine ex_if0 oq_X12_causeLine_33 (t := 46) rfl rfl (fun (c109 : x107.toInt = 0) => ?_) (fun (c109 : ¬ (x107.toInt = 0)) => ?_)
    · exfalso; omega
    · replace c109 : ¬ x107.toInt = 0 := by omega
      refine ex_al oq_X12_causeLine_36 rfl ?_
      refine ex_ic oq_X12_causeLine_37 (m := 1) (by decide) (fun x110 hx110 => ?_)
      refine ex_bi oq_X12_causeLine_38 (m := 99) (by decide) (fun x111 hx111 => ?_)
      refine ex_cv oq_X12_causeLine_40 (by decide) Th108 (k := 111) (d := 12) (as := [cv_i x110, cv_i x111]) (stk := []) rfl rfl rfl rfl rfl rfl ⟨rfl, rfl⟩ (R := fun o => ∃ (x : Int32) (hb : cv_H), o = (some (cv_i x), hb) ∧ cw_T G hb ∧ cw_Fr cw_Ds cw_sh kk_X12_number.2.2.2.2.2.1 h108 hb ∧ zRe t n h108 hb x (zn t n x110.toInt x111.toInt p1) (fun v => ri_at hb 111 11 = v)) (rt_number (t := t) (n := n) (p := p1) (fun i hi => by rw [ht i hi, ← hA _ Fh108]) hn9 Th108 (fun i hi => by rw [hB _ Fh108]; exact hwr i hi) (by omega) Zh108 x110 x111 (fun x hb b1 b2 b3 => ⟨x, hb, rfl, b1, b2, b3⟩)) (fun o ho => ?_)
      obtain ⟨x112, h113, rfl, Th113, Ch113, dx112⟩ := ho
      show cw_X _ _ _ _ _ [cv_i x112] h113
      have Fh113 : cw_Fr cw_Ds cw_sh mk_ca h0 h113 := cw_Fr_tr Fh108 (cw_Fr_mono (by decide +kernel) Ch113)
      rw [hx110, hx111] at dx112
      rw [E2] at dx112
      obtain ⟨wx112, lx112, Zh113, Dh113⟩ := zRe_r dx112
      clear dx112
      have eh113_111_18 : ri_at h113 111 18 = ri_at h0 111 18 := (ri_frf Ch113 (d := 12) rfl rfl (by decide +kernel)).trans eh108_111_18
      clear eh108_111_18
      obtain ⟨yah113, ybh113, ych113, ydh113, -⟩ := id Zh113
      have zlh113 := zx_le (t := t) (n := n) (p := p2) (by omega)
      clear yah108 ybh108 ych108 ydh108
      refine ex_if0 oq_X12_causeLine_43 (t := 48) rfl rfl (fun (c114 : ¬ x112.toInt = 0) => ?_) (fun (c114 : ¬ (¬ x112.toInt = 0)) => ?_)
      · refine ex_bi oq_X12_causeLine_48 (m := 18) (by decide) (fun x115 hx115 => ?_)
        refine ex_ic oq_X12_causeLine_50 (m := 3) (by decide) (fun x116 hx116 => ?_)
        refine ex_al oq_X12_causeLine_51 rfl ?_
        obtain ⟨x117, ax117, rx117, lx117, ux117⟩ := fi_causesRead Th113
        refine ex_gf oq_X12_causeLine_52 Th113 (k := 111) (d := 12) rfl rfl ax117 ?_
        have rx117 := (rx117.symm.trans eh113_111_18 : x117.toInt = ri_at h0 111 18)
        refine ex_mul oq_X12_causeLine_55 (m := 3 * x117.toInt) (by rw [hx116]) (by omega) (fun x118 hx118 => ?_)
        refine ex_add oq_X12_causeLine_56 (by omega) (fun x119 hx119 => ?_)
        refine ex_isA oq_X12_causeLine_57 (fun L120 gL120_1 kL120 => ?_)
        have gL120_0 : cv_get L120 0 = some (cv_r 111) := kL120 0 _ (by decide) (fun _ => rfl) rfl
        refine ex_al oq_X12_causeLine_58 gL120_0 ?_
        refine ex_gf oq_X12_causeLine_59 Th113 (k := 111) (d := 12) rfl rfl (fr_causeHas Th113) ?_
        refine ex_il oq_X12_causeLine_62 gL120_1 ?_
        refine ex_al oq_X12_causeLine_63 gL120_0 ?_
        obtain ⟨x121, ax121, rx121, lx121, ux121⟩ := fi_got Th113
        refine ex_gf oq_X12_causeLine_64 Th113 (k := 111) (d := 12) rfl rfl ax121 ?_
        have rx121 := (rx121.symm.trans Dh113 : x121.toInt = w)
        refine ex_iw oq_X12_causeLine_67 Th113 (k := 124) (d := 63) (j := 18 + 3 * l.length) rfl rfl (by omega) (by omega) (fun r hr => ca_get hr _ (cw_i32 _) (fun q => by omega)) (fun h122 Th122 wh122 => ?_)
        have Fh122 : cw_Fr cw_Ds cw_sh mk_ca h0 h122 := cw_Fr_tr Fh113 (cw_Fr_wrr wh122 (k := 124) (d := 63) rfl rfl (by decide +kernel))
        have eh122_111_4 : ri_at h122 111 4 = ri_at h113 111 4 := ri_ne wh122 (.inl (by decide))
        have eh122_111_5 : ri_at h122 111 5 = ri_at h113 111 5 := ri_ne wh122 (.inl (by decide))
        have eh122_111_6 : ri_at h122 111 6 = (n : Int) := (ri_ne wh122 (.inl (by decide))).trans yah113
        have eh122_111_7 : ri_at h122 111 7 = ((zx t n p2 : Nat) : Int) := (ri_ne wh122 (.inl (by decide))).trans ych113
        have eh122_111_8 : ri_at h122 111 8 = zk t n p2 := (ri_ne wh122 (.inl (by decide))).trans ydh113
        have eh122_111_10 : ri_at h122 111 10 = ((za t n p2 : Nat) : Int) := (ri_ne wh122 (.inl (by decide))).trans ybh113
        have eh122_111_11 : ri_at h122 111 11 = w := (ri_ne wh122 (.inl (by decide))).trans Dh113
        have eh122_111_18 : ri_at h122 111 18 = ri_at h0 111 18 := (ri_ne wh122 (.inl (by decide))).trans eh113_111_18
        clear eh113_111_18
        have Zh122 := zR_wr wh122 Zh113 (.inl (by decide))
        refine ex_al oq_X12_causeLine_68 gL120_0 ?_
        obtain ⟨x123, ax123, rx123, lx123, ux123⟩ := fi_kind Th122
        refine ex_gf oq_X12_causeLine_69 Th122 (k := 111) (d := 12) rfl rfl ax123 ?_
        have rx123 := (rx123.symm.trans eh122_111_8 : x123.toInt = zk t n p2)
        refine ex_ic oq_X12_causeLine_72 (m := 1) (by decide) (fun x124 hx124 => ?_)
        refine ex_if oq_X12_causeLine_73 (t := 89) rfl rfl (fun (c125 : ¬ x123.toInt = x124.toInt) => ?_) (fun (c125 : ¬ (¬ x123.toInt = x124.toInt)) => ?_)
        · exfalso; omega
        · refine ex_al oq_X12_causeLine_76 gL120_0 ?_
          obtain ⟨x126, ax126, rx126, lx126, ux126⟩ := fi_which Th122
          refine ex_gf oq_X12_causeLine_77 Th122 (k := 111) (d := 12) rfl rfl ax126 ?_
          have wx126 : x126.toInt = zw t n p2 := rx126.symm.trans (Zh122.2.2.2.2 (by omega) (by omega))
          refine ex_ic oq_X12_causeLine_80 (m := 5) (by decide) (fun x127 hx127 => ?_)
          refine ex_bi oq_X12_causeLine_81 (m := 7) (by decide) (fun x128 hx128 => ?_)
          refine ex_cs oq_X12_causeLine_83 (by decide) (as := [cv_i x126, cv_i x127, cv_i x128]) (stk := []) rfl rfl rfl ⟨rfl, rfl⟩ (R := fun o => ∃ x : Int32, o = (some (cv_i x), h122) ∧ (x.toInt = 1 ∧ x127.toInt ≤ x126.toInt ∧ x126.toInt ≤ x128.toInt ∨ x.toInt = 0 ∧ (x126.toInt < x127.toInt ∨ x128.toInt < x126.toInt))) (rt_isIn x126 x127 x128 (fun x q => ⟨x, rfl, q⟩)) (fun o ho => ?_)
          obtain ⟨x129, rfl, dx129⟩ := ho
          show cw_X _ _ _ _ _ [cv_i x129] h122
          refine ex_if0 oq_X12_causeLine_86 (t := 95) rfl rfl (fun (c130 : ¬ x129.toInt = 0) => ?_) (fun (c130 : ¬ (¬ x129.toInt = 0)) => ?_)
          · obtain ⟨_, dx129, dx129b⟩ := isin_y dx129 c130
            refine ex_al oq_X12_causeLine_95 gL120_0 ?_
            refine ex_gf oq_X12_causeLine_96 Th122 (k := 111) (d := 12) rfl rfl (fr_causeHas Th122) ?_
            refine ex_il oq_X12_causeLine_99 gL120_1 ?_
            refine ex_ic oq_X12_causeLine_100 (m := 1) (by decide) (fun x131 hx131 => ?_)
            refine ex_add oq_X12_causeLine_101 (by omega) (fun x132 hx132 => ?_)
            refine ex_al oq_X12_causeLine_102 gL120_0 ?_
            obtain ⟨x133, ax133, rx133, lx133, ux133⟩ := fi_which Th122
            refine ex_gf oq_X12_causeLine_103 Th122 (k := 111) (d := 12) rfl rfl ax133 ?_
            have wx133 : x133.toInt = zw t n p2 := rx133.symm.trans (Zh122.2.2.2.2 (by omega) (by omega))
            refine ex_ic oq_X12_causeLine_106 (m := 5) (by decide) (fun x134 hx134 => ?_)
            refine ex_sub oq_X12_causeLine_107 (by omega) (fun x135 hx135 => ?_)
            refine ex_iw oq_X12_causeLine_108 Th122 (k := 124) (d := 63) (j := 18 + 3 * l.length + 1) rfl rfl (by omega) (by omega) (fun r hr => ca_get hr _ (cw_i32 _) (fun q => by omega)) (fun h136 Th136 wh136 => ?_)
            have Fh136 : cw_Fr cw_Ds cw_sh mk_ca h0 h136 := cw_Fr_tr Fh122 (cw_Fr_wrr wh136 (k := 124) (d := 63) rfl rfl (by decide +kernel))
            have eh136_111_4 : ri_at h136 111 4 = ri_at h113 111 4 := (ri_ne wh136 (.inl (by decide))).trans eh122_111_4
            clear eh122_111_4
            have eh136_111_5 : ri_at h136 111 5 = ri_at h113 111 5 := (ri_ne wh136 (.inl (by decide))).trans eh122_111_5
            clear eh122_111_5
            have eh136_111_6 : ri_at h136 111 6 = (n : Int) := (ri_ne wh136 (.inl (by decide))).trans eh122_111_6
            clear eh122_111_6
            have eh136_111_7 : ri_at h136 111 7 = ((zx t n p2 : Nat) : Int) := (ri_ne wh136 (.inl (by decide))).trans eh122_111_7
            clear eh122_111_7
            have eh136_111_8 : ri_at h136 111 8 = zk t n p2 := (ri_ne wh136 (.inl (by decide))).trans eh122_111_8
            clear eh122_111_8
            have eh136_111_10 : ri_at h136 111 10 = ((za t n p2 : Nat) : Int) := (ri_ne wh136 (.inl (by decide))).trans eh122_111_10
            clear eh122_111_10
            have eh136_111_11 : ri_at h136 111 11 = w := (ri_ne wh136 (.inl (by decide))).trans eh122_111_11
            clear eh122_111_11
            have eh136_111_18 : ri_at h136 111 18 = ri_at h0 111 18 := (ri_ne wh136 (.inl (by decide))).trans eh122_111_18
            clear eh122_111_18
            have Zh136 := zR_wr wh136 Zh122 (.inl (by decide))
            refine ex_al oq_X12_causeLine_109 gL120_0 ?_
            refine ex_cv oq_X12_causeLine_110 (by decide) Th136 (k := 111) (d := 12) (as := []) (stk := []) rfl rfl rfl rfl rfl rfl ⟨rfl, rfl⟩ (R := fun o => ∃ hb : cv_H, o = (none, hb) ∧ cw_T G hb ∧ cw_Fr cw_Ds cw_sh kk_X12_token.2.2.2.2.2.1 h136 hb ∧ zR t n (zx t n p2) hb) (rt_tok (t := t) (n := n) (p := (zx t n p2)) (fun i hi => by rw [ht i hi, ← hA _ Fh136]) hn9 (fun i hi => by rw [hB _ Fh136]; exact hwr i hi) Th136 (zx_le (by omega)) (by omega) (by omega) (fun hb b1 b2 b3 => ⟨hb, rfl, b1, b2, b3⟩)) (fun o ho => ?_)
            obtain ⟨h137, rfl, Th137, Ch137, Zh137⟩ := ho
            show cw_X _ _ _ _ _ [] h137
            have Fh137 : cw_Fr cw_Ds cw_sh mk_ca h0 h137 := cw_Fr_tr Fh136 (cw_Fr_mono (by decide +kernel) Ch137)
            have eh137_111_4 : ri_at h137 111 4 = ri_at h113 111 4 := (ri_frf Ch137 (d := 12) rfl rfl (by decide +kernel)).trans eh136_111_4
            clear eh136_111_4
            have eh137_111_5 : ri_at h137 111 5 = ri_at h113 111 5 := (ri_frf Ch137 (d := 12) rfl rfl (by decide +kernel)).trans eh136_111_5
            clear eh136_111_5
            have eh137_111_11 : ri_at h137 111 11 = w := (ri_frf Ch137 (d := 12) rfl rfl (by decide +kernel)).trans eh136_111_11
            clear eh136_111_11
            have eh137_111_18 : ri_at h137 111 18 = ri_at h0 111 18 := (ri_frf Ch137 (d := 12) rfl rfl (by decide +kernel)).trans eh136_111_18
            clear eh136_111_18
            obtain ⟨yah137, ybh137, ych137, ydh137, -⟩ := id Zh137
            have zlh137 := zx_le (t := t) (n := n) (p := (zx t n p2)) (by omega)
            clear eh136_111_6 eh136_111_10 eh136_111_7 eh136_111_8
            refine ex_al oq_X12_causeLine_113 gL120_0 ?_
            refine ex_ic oq_X12_causeLine_114 (m := 1) (by decide) (fun x138 hx138 => ?_)
            refine ex_si oq_X12_causeLine_115 (m := 999) (by decide) (fun x139 hx139 => ?_)
            refine ex_cv oq_X12_causeLine_118 (by decide) Th137 (k := 111) (d := 12) (as := [cv_i x138, cv_i x139]) (stk := []) rfl rfl rfl rfl rfl rfl ⟨rfl, rfl⟩ (R := fun o => ∃ (x : Int32) (hb : cv_H), o = (some (cv_i x), hb) ∧ cw_T G hb ∧ cw_Fr cw_Ds cw_sh kk_X12_number.2.2.2.2.2.1 h137 hb ∧ zRe t n h137 hb x (zn t n x138.toInt x139.toInt (zx t n p2)) (fun v => ri_at hb 111 11 = v)) (rt_number (t := t) (n := n) (p := (zx t n p2)) (fun i hi => by rw [ht i hi, ← hA _ Fh137]) hn9 Th137 (fun i hi => by rw [hB _ Fh137]; exact hwr i hi) (by omega) Zh137 x138 x139 (fun x hb b1 b2 b3 => ⟨x, hb, rfl, b1, b2, b3⟩)) (fun o ho => ?_)
            obtain ⟨x140, h141, rfl, Th141, Ch141, dx140⟩ := ho
            show cw_X _ _ _ _ _ [cv_i x140] h141
            have Fh141 : cw_Fr cw_Ds cw_sh mk_ca h0 h141 := cw_Fr_tr Fh137 (cw_Fr_mono (by decide +kernel) Ch141)
            rw [hx138, hx139] at dx140
            rw [E4] at dx140
            obtain ⟨wx140, lx140, Zh141, Dh141⟩ := zRe_r dx140
            clear dx140
            have eh141_111_18 : ri_at h141 111 18 = ri_at h0 111 18 := (ri_frf Ch141 (d := 12) rfl rfl (by decide +kernel)).trans eh137_111_18
            clear eh137_111_18
            obtain ⟨yah141, ybh141, ych141, ydh141, -⟩ := id Zh141
            have zlh141 := zx_le (t := t) (n := n) (p := p3) (by omega)
            clear yah137 ybh137 ych137 ydh137
            refine ex_if0 oq_X12_causeLine_121 (t := 126) rfl rfl (fun (c142 : ¬ x140.toInt = 0) => ?_) (fun (c142 : ¬ (¬ x140.toInt = 0)) => ?_)
            · refine ex_al oq_X12_causeLine_126 gL120_0 ?_
              refine ex_gf oq_X12_causeLine_127 Th141 (k := 111) (d := 12) rfl rfl (fr_causeHas Th141) ?_
              refine ex_il oq_X12_causeLine_130 gL120_1 ?_
              refine ex_ic oq_X12_causeLine_131 (m := 2) (by decide) (fun x143 hx143 => ?_)
              refine ex_add oq_X12_causeLine_132 (by omega) (fun x144 hx144 => ?_)
              refine ex_al oq_X12_causeLine_133 gL120_0 ?_
              obtain ⟨x145, ax145, rx145, lx145, ux145⟩ := fi_got Th141
              refine ex_gf oq_X12_causeLine_134 Th141 (k := 111) (d := 12) rfl rfl ax145 ?_
              have rx145 := (rx145.symm.trans Dh141 : x145.toInt = k)
              refine ex_iw oq_X12_causeLine_137 Th141 (k := 124) (d := 63) (j := 18 + 3 * l.length + 2) rfl rfl (by omega) (by omega) (fun r hr => ca_get hr _ (cw_i32 _) (fun q => by omega)) (fun h146 Th146 wh146 => ?_)
              have Fh146 : cw_Fr cw_Ds cw_sh mk_ca h0 h146 := cw_Fr_tr Fh141 (cw_Fr_wrr wh146 (k := 124) (d := 63) rfl rfl (by decide +kernel))
              have eh146_111_4 : ri_at h146 111 4 = ri_at h141 111 4 := ri_ne wh146 (.inl (by decide))
              have eh146_111_5 : ri_at h146 111 5 = ri_at h141 111 5 := ri_ne wh146 (.inl (by decide))
              have eh146_111_6 : ri_at h146 111 6 = (n : Int) := (ri_ne wh146 (.inl (by decide))).trans yah141
              have eh146_111_7 : ri_at h146 111 7 = ((zx t n p3 : Nat) : Int) := (ri_ne wh146 (.inl (by decide))).trans ych141
              have eh146_111_8 : ri_at h146 111 8 = zk t n p3 := (ri_ne wh146 (.inl (by decide))).trans ydh141
              have eh146_111_10 : ri_at h146 111 10 = ((za t n p3 : Nat) : Int) := (ri_ne wh146 (.inl (by decide))).trans ybh141
              have eh146_111_11 : ri_at h146 111 11 = k := (ri_ne wh146 (.inl (by decide))).trans Dh141
              have eh146_111_18 : ri_at h146 111 18 = ri_at h0 111 18 := (ri_ne wh146 (.inl (by decide))).trans eh141_111_18
              clear eh141_111_18
              have Zh146 := zR_wr wh146 Zh141 (.inl (by decide))
              refine ex_al oq_X12_causeLine_138 gL120_0 ?_
              refine ex_dup oq_X12_causeLine_139 rfl ?_
              obtain ⟨x147, ax147, rx147, lx147, ux147⟩ := fi_causesRead Th146
              refine ex_gf oq_X12_causeLine_140 Th146 (k := 111) (d := 12) rfl rfl ax147 ?_
              have rx147 := (rx147.symm.trans eh146_111_18 : x147.toInt = ri_at h0 111 18)
              refine ex_ic oq_X12_causeLine_143 (m := 1) (by decide) (fun x148 hx148 => ?_)
              refine ex_add oq_X12_causeLine_144 (by omega) (fun x149 hx149 => ?_)
              refine ex_pfi oq_X12_causeLine_145 Th146 (k := 111) (d := 12) rfl rfl rfl (by omega) (by omega) (fun h150 Th150 wh150 => ?_)
              have Fh150 : cw_Fr cw_Ds cw_sh mk_ca h0 h150 := cw_Fr_tr Fh146 (cw_Fr_wrf wh150 (k := 111) (d := 12) rfl rfl (by decide +kernel))
              have eh150_111_4 : ri_at h150 111 4 = ri_at h141 111 4 := (ri_ne wh150 (by decide)).trans eh146_111_4
              clear eh146_111_4
              have eh150_111_5 : ri_at h150 111 5 = ri_at h141 111 5 := (ri_ne wh150 (by decide)).trans eh146_111_5
              clear eh146_111_5
              have eh150_111_6 : ri_at h150 111 6 = (n : Int) := (ri_ne wh150 (by decide)).trans eh146_111_6
              clear eh146_111_6
              have eh150_111_7 : ri_at h150 111 7 = ((zx t n p3 : Nat) : Int) := (ri_ne wh150 (by decide)).trans eh146_111_7
              clear eh146_111_7
              have eh150_111_8 : ri_at h150 111 8 = zk t n p3 := (ri_ne wh150 (by decide)).trans eh146_111_8
              clear eh146_111_8
              have eh150_111_10 : ri_at h150 111 10 = ((za t n p3 : Nat) : Int) := (ri_ne wh150 (by decide)).trans eh146_111_10
              clear eh146_111_10
              have eh150_111_11 : ri_at h150 111 11 = k := (ri_ne wh150 (by decide)).trans eh146_111_11
              clear eh146_111_11
              have eh150_111_18 : ri_at h150 111 18 = x149.toInt := ri_self wh150
              have Zh150 := zR_wr wh150 Zh146 (.inr (by decide))
              refine ex_ic oq_X12_causeLine_148 (m := 1) (by decide) (fun x151 hx151 => ?_)
              exact ex_retb oq_X12_causeLine_149 rfl (by omega) (by omega) (hQ x151 h150 Th150 Fh150 ((((ri_ne wh150 (.inl (by decide))).trans ((ri_ne wh146 (.inr (by omega))).trans ((ri_frq Ch141 (k := 124) (d := 63) rfl rfl (by decide) (by decide +kernel)).trans ((ri_frq Ch137 (k := 124) (d := 63) rfl rfl (by decide) (by decide +kernel)).trans ((ri_ne wh136 (.inr (by omega))).trans (ri_self wh122))))))).trans (show x121.toInt = w from by omega)) ((((ri_ne wh150 (.inl (by decide))).trans ((ri_ne wh146 (.inr (by omega))).trans ((ri_frq Ch141 (k := 124) (d := 63) rfl rfl (by decide) (by decide +kernel)).trans ((ri_frq Ch137 (k := 124) (d := 63) rfl rfl (by decide) (by decide +kernel)).trans (ri_self wh136)))))).trans (show x135.toInt = zw t n p2 - 5 from by omega)) ((((ri_ne wh150 (.inl (by decide))).trans (ri_self wh146))).trans (show x145.toInt = k from by omega)) (fun j hj => ((ri_ne wh150 (.inl (by decide))).trans ((ri_ne wh146 (.inr (by omega))).trans ((ri_frq Ch141 (k := 124) (d := 63) rfl rfl (by decide) (by decide +kernel)).trans ((ri_frq Ch137 (k := 124) (d := 63) rfl rfl (by decide) (by decide +kernel)).trans ((ri_ne wh136 (.inr (by omega))).trans ((ri_ne wh122 (.inr (by omega))).trans ((ri_frq Ch113 (k := 124) (d := 63) rfl rfl (by decide) (by decide +kernel)).trans ((ri_frq Ch108 (k := 124) (d := 63) rfl rfl (by decide) (by decide +kernel)).trans (ri_frq Ch104 (k := 124) (d := 63) rfl rfl (by decide) (by decide +kernel))))))))))))
            · exfalso; omega
          · exfalso; omega
      · exfalso; omega
  · exfalso; omega
set_option maxHeartbeats 8000000 in
theorem rt_workLineDA {h0 : cv_H} {n p : Nat} (ht : ∀ i, i < n → t i = ri_at h0 112 i) (hn9 : n ≤ 900) (hT : cw_T G h0) (hwr : ∀ i, i < 177 → ri_at h0 113 i = pp_words.getD i 0) (hpn : p ≤ n) (hz : zR t n p h0) {l : List Int} (hc : ri_at h0 111 17 = l.length) (hlm : l.length < 6) (hl : ∀ k, k < l.length → ri_at h0 121 (6 + k) = l.getD k 0) {nm w k : Int} {p1 p2 p3 : Nat} (E1 : zm t n l (zx t n p) = .inr (nm, p1)) (E2 : zn t n 1 999 p1 = .inr (w, p2)) (E3 : 1 < (zwk (zk t n p2) (zw t n p2))) (E4 : zn t n 0 (zmo (zwk (zk t n p2) (zw t n p2))) (zx t n p2) = .inr (k, p3)) (hQ : ∀ (x : Int32) h', cw_T G h' → cw_Fr cw_Ds cw_sh mk_wo h0 h' → ri_at h' 122 (18 + 3 * l.length) = w → ri_at h' 122 (18 + 3 * l.length + 1) = (zwk (zk t n p2) (zw t n p2)) → ri_at h' 122 (18 + 3 * l.length + 2) = k → (∀ j, j < 18 + 3 * l.length → ri_at h' 122 j = ri_at h0 122 j) → Q (some (cv_i x), h')) : cw_X X 185 Q 0 (cv_ent 0 [cv_r 111]) [] h0 := by
  have Fh0 : cw_Fr cw_Ds cw_sh mk_wo h0 h0 := cw_Fr_refl
  have zxl := zx_le (t := t) hpn
  obtain ⟨z1, z2, z3, z4, z5⟩ := id hz
  replace z5 := zhd_i z5
  have hA : ∀ h, cw_Fr cw_Ds cw_sh mk_wo h0 h → ∀ i, ri_at h 112 i = ri_at h0 112 i := fun h F i => ri_frr F (k := 112) (d := 51) rfl rfl (by decide +kernel)
  have hB : ∀ h, cw_Fr cw_Ds cw_sh mk_wo h0 h → ∀ i, ri_at h 113 i = ri_at h0 113 i := fun h F i => ri_frr F (k := 113) (d := 52) rfl rfl (by decide +kernel)
  refine ex_al oq_X12_workLine_0 rfl ?_
  obtain ⟨x101, ax101, rx101, lx101, ux101⟩ := fi_worksRead hT
  refine ex_gf oq_X12_workLine_1 hT (k := 111) (d := 12) rfl rfl ax101 ?_
  refine ex_bi oq_X12_workLine_4 (m := 6) (by decide) (fun x102 hx102 => ?_)
  refine ex_if oq_X12_workLine_6 (t := 15) rfl rfl (fun (c103 : ¬ x101.toInt = x102.toInt) => ?_) (fun (c103 : ¬ (¬ x101.toInt = x102.toInt)) => ?_)
  · refine ex_al oq_X12_workLine_15 rfl ?_
    refine ex_cv oq_X12_workLine_16 (by decide) hT (k := 111) (d := 12) (as := []) (stk := []) rfl rfl rfl rfl rfl rfl ⟨rfl, rfl⟩ (R := fun o => ∃ hb : cv_H, o = (none, hb) ∧ cw_T G hb ∧ cw_Fr cw_Ds cw_sh kk_X12_token.2.2.2.2.2.1 h0 hb ∧ zR t n (zx t n p) hb) (rt_tok (t := t) (n := n) (p := (zx t n p)) (fun i hi => by rw [ht i hi, ← hA _ Fh0]) hn9 (fun i hi => by rw [hB _ Fh0]; exact hwr i hi) hT (zx_le (by omega)) (by omega) (by omega) (fun hb b1 b2 b3 => ⟨hb, rfl, b1, b2, b3⟩)) (fun o ho => ?_)
    obtain ⟨h104, rfl, Th104, Ch104, Zh104⟩ := ho
    show cw_X _ _ _ _ _ [] h104
    have Fh104 : cw_Fr cw_Ds cw_sh mk_wo h0 h104 := cw_Fr_tr Fh0 (cw_Fr_mono (by decide +kernel) Ch104)
    have eh104_111_4 : ri_at h104 111 4 = ri_at h0 111 4 := ri_frf Ch104 (d := 12) rfl rfl (by decide +kernel)
    have eh104_111_5 : ri_at h104 111 5 = ri_at h0 111 5 := ri_frf Ch104 (d := 12) rfl rfl (by decide +kernel)
    have eh104_111_11 : ri_at h104 111 11 = ri_at h0 111 11 := ri_frf Ch104 (d := 12) rfl rfl (by decide +kernel)
    have eh104_111_17 : ri_at h104 111 17 = ri_at h0 111 17 := ri_frf Ch104 (d := 12) rfl rfl (by decide +kernel)
    obtain ⟨yah104, ybh104, ych104, ydh104, -⟩ := id Zh104
    have zlh104 := zx_le (t := t) (n := n) (p := (zx t n p)) (by omega)
    refine ex_al oq_X12_workLine_19 rfl ?_
    refine ex_al oq_X12_workLine_20 rfl ?_
    refine ex_gf oq_X12_workLine_21 Th104 (k := 111) (d := 12) rfl rfl (fr_workName Th104) ?_
    refine ex_bi oq_X12_workLine_24 (m := 6) (by decide) (fun x105 hx105 => ?_)
    refine ex_al oq_X12_workLine_26 rfl ?_
    obtain ⟨x106, ax106, rx106, lx106, ux106⟩ := fi_worksRead Th104
    refine ex_gf oq_X12_workLine_27 Th104 (k := 111) (d := 12) rfl rfl ax106 ?_
    have rx106 := (rx106.symm.trans eh104_111_17 : x106.toInt = ri_at h0 111 17)
    have hlh104 : ∀ k, k < l.length → ri_at h104 121 (6 + k) = l.getD k 0 := fun k hk => by rw [show ri_at h104 121 (6 + k) = ri_at h0 121 (6 + k) from (ri_frr Ch104 (k := 121) (d := 60) rfl rfl (by decide +kernel))]; exact hl k hk
    refine ex_cv oq_X12_workLine_30 (by decide) Th104 (k := 111) (d := 12) (as := [cv_r 121, cv_i x105, cv_i x106]) (stk := []) rfl rfl rfl rfl rfl rfl ⟨rfl, rfl⟩ (R := fun o => ∃ (x : Int32) (hb : cv_H), o = (some (cv_i x), hb) ∧ cw_T G hb ∧ cw_Fr cw_Ds cw_sh kk_X12_newName_1.2.2.2.2.2.1 h104 hb ∧ zRe t n h104 hb x (zm t n l (zx t n p)) (fun v => (∀ k, k < l.length → ri_at hb 121 (6 + k) = l.getD k 0) ∧ ri_at hb 121 (6 + l.length) = v)) (rt_newNameW (t := t) (n := n) (p := (zx t n p)) (l := l) (fun i hi => by rw [ht i hi, ← hA _ Fh104]) hn9 Th104 (fun i hi => by rw [hB _ Fh104]; exact hwr i hi) (by omega) Zh104 (by omega) (by omega) (by omega) hlh104 (fun x hb b1 b2 b3 => ⟨x, hb, rfl, b1, b2, b3⟩)) (fun o ho => ?_)
    obtain ⟨x107, h108, rfl, Th108, Ch108, dx107⟩ := ho
    show cw_X _ _ _ _ _ [cv_i x107] h108
    have Fh108 : cw_Fr cw_Ds cw_sh mk_wo h0 h108 := cw_Fr_tr Fh104 (cw_Fr_mono (by decide +kernel) Ch108)
    rw [E1] at dx107
    obtain ⟨wx107, lx107, Zh108, Dh108⟩ := zRe_r dx107
    clear dx107
    have eh108_111_17 : ri_at h108 111 17 = ri_at h0 111 17 := (ri_frf Ch108 (d := 12) rfl rfl (by decide +kernel)).trans eh104_111_17
    clear eh104_111_17
    obtain ⟨yah108, ybh108, ych108, ydh108, -⟩ := id Zh108
    have zlh108 := zx_le (t := t) (n := n) (p := p1) (by omega)
    clear yah104 ybh104 ych104 ydh104
    refine ex_if0 oq_X12_workLine_33 (t := 47) rfl rfl (fun (c109 : x107.toInt = 0) => ?_) (fun (c109 : ¬ (x107.toInt = 0)) => ?_)
    · exfalso; omega
    · replace c109 : ¬ x107.toInt = 0 := by omega
      refine ex_al oq_X12_workLine_36 rfl ?_
      refine ex_ic oq_X12_workLine_37 (m := 1) (by decide) (fun x110 hx110 => ?_)
      refine ex_si oq_X12_workLine_38 (m := 999) (by decide) (fun x111 hx111 => ?_)
      refine ex_cv oq_X12_workLine_41 (by decide) Th108 (k := 111) (d := 12) (as := [cv_i x110, cv_i x111]) (stk := []) rfl rfl rfl rfl rfl rfl ⟨rfl, rfl⟩ (R := fun o => ∃ (x : Int32) (hb : cv_H), o = (some (cv_i x), hb) ∧ cw_T G hb ∧ cw_Fr cw_Ds cw_sh kk_X12_number.2.2.2.2.2.1 h108 hb ∧ zRe t n h108 hb x (zn t n x110.toInt x111.toInt p1) (fun v => ri_at hb 111 11 = v)) (rt_number (t := t) (n := n) (p := p1) (fun i hi => by rw [ht i hi, ← hA _ Fh108]) hn9 Th108 (fun i hi => by rw [hB _ Fh108]; exact hwr i hi) (by omega) Zh108 x110 x111 (fun x hb b1 b2 b3 => ⟨x, hb, rfl, b1, b2, b3⟩)) (fun o ho => ?_)
      obtain ⟨x112, h113, rfl, Th113, Ch113, dx112⟩ := ho
      show cw_X _ _ _ _ _ [cv_i x112] h113
      have Fh113 : cw_Fr cw_Ds cw_sh mk_wo h0 h113 := cw_Fr_tr Fh108 (cw_Fr_mono (by decide +kernel) Ch113)
      rw [hx110, hx111] at dx112
      rw [E2] at dx112
      obtain ⟨wx112, lx112, Zh113, Dh113⟩ := zRe_r dx112
      clear dx112
      have eh113_111_17 : ri_at h113 111 17 = ri_at h0 111 17 := (ri_frf Ch113 (d := 12) rfl rfl (by decide +kernel)).trans eh108_111_17
      clear eh108_111_17
      obtain ⟨yah113, ybh113, ych113, ydh113, -⟩ := id Zh113
      have zlh113 := zx_le (t := t) (n := n) (p := p2) (by omega)
      clear yah108 ybh108 ych108 ydh108
      refine ex_if0 oq_X12_workLine_44 (t := 49) rfl rfl (fun (c114 : ¬ x112.toInt = 0) => ?_) (fun (c114 : ¬ (¬ x112.toInt = 0)) => ?_)
      · refine ex_bi oq_X12_workLine_49 (m := 18) (by decide) (fun x115 hx115 => ?_)
        refine ex_ic oq_X12_workLine_51 (m := 3) (by decide) (fun x116 hx116 => ?_)
        refine ex_al oq_X12_workLine_52 rfl ?_
        obtain ⟨x117, ax117, rx117, lx117, ux117⟩ := fi_worksRead Th113
        refine ex_gf oq_X12_workLine_53 Th113 (k := 111) (d := 12) rfl rfl ax117 ?_
        have rx117 := (rx117.symm.trans eh113_111_17 : x117.toInt = ri_at h0 111 17)
        refine ex_mul oq_X12_workLine_56 (m := 3 * x117.toInt) (by rw [hx116]) (by omega) (fun x118 hx118 => ?_)
        refine ex_add oq_X12_workLine_57 (by omega) (fun x119 hx119 => ?_)
        refine ex_isA oq_X12_workLine_58 (fun L120 gL120_1 kL120 => ?_)
        have gL120_0 : cv_get L120 0 = some (cv_r 111) := kL120 0 _ (by decide) (fun _ => rfl) rfl
        refine ex_al oq_X12_workLine_59 gL120_0 ?_
        refine ex_gf oq_X12_workLine_60 Th113 (k := 111) (d := 12) rfl rfl (fr_workHas Th113) ?_
        refine ex_il oq_X12_workLine_63 gL120_1 ?_
        refine ex_al oq_X12_workLine_64 gL120_0 ?_
        obtain ⟨x121, ax121, rx121, lx121, ux121⟩ := fi_got Th113
        refine ex_gf oq_X12_workLine_65 Th113 (k := 111) (d := 12) rfl rfl ax121 ?_
        have rx121 := (rx121.symm.trans Dh113 : x121.toInt = w)
        refine ex_iw oq_X12_workLine_68 Th113 (k := 122) (d := 61) (j := 18 + 3 * l.length) rfl rfl (by omega) (by omega) (fun r hr => zw_get hr _ (cw_i32 _)) (fun h122 Th122 wh122 => ?_)
        have Fh122 : cw_Fr cw_Ds cw_sh mk_wo h0 h122 := cw_Fr_tr Fh113 (cw_Fr_wrr wh122 (k := 122) (d := 61) rfl rfl (by decide +kernel))
        have eh122_111_4 : ri_at h122 111 4 = ri_at h113 111 4 := ri_ne wh122 (.inl (by decide))
        have eh122_111_5 : ri_at h122 111 5 = ri_at h113 111 5 := ri_ne wh122 (.inl (by decide))
        have eh122_111_6 : ri_at h122 111 6 = (n : Int) := (ri_ne wh122 (.inl (by decide))).trans yah113
        have eh122_111_7 : ri_at h122 111 7 = ((zx t n p2 : Nat) : Int) := (ri_ne wh122 (.inl (by decide))).trans ych113
        have eh122_111_8 : ri_at h122 111 8 = zk t n p2 := (ri_ne wh122 (.inl (by decide))).trans ydh113
        have eh122_111_10 : ri_at h122 111 10 = ((za t n p2 : Nat) : Int) := (ri_ne wh122 (.inl (by decide))).trans ybh113
        have eh122_111_11 : ri_at h122 111 11 = w := (ri_ne wh122 (.inl (by decide))).trans Dh113
        have eh122_111_17 : ri_at h122 111 17 = ri_at h0 111 17 := (ri_ne wh122 (.inl (by decide))).trans eh113_111_17
        clear eh113_111_17
        have Zh122 := zR_wr wh122 Zh113 (.inl (by decide))
        refine ex_al oq_X12_workLine_69 gL120_0 ?_
        refine ex_cv oq_X12_workLine_70 (by decide) Th122 (k := 111) (d := 12) (as := []) (stk := []) rfl rfl rfl rfl rfl rfl ⟨rfl, rfl⟩ (R := fun o => ∃ x : Int32, o = (some (cv_i x), h122) ∧ x.toInt = zwk (zk t n p2) (zw t n p2)) (rt_workWord (t := t) (n := n) (p := p2) Th122 Zh122 (fun x q => ⟨x, rfl, q⟩)) (fun o ho => ?_)
        obtain ⟨x123, rfl, wx123⟩ := ho
        show cw_X _ _ _ _ _ [cv_i x123] h122
        have wb := zwk_b (k := zk t n p2) (w := zw t n p2)
        refine ex_isA oq_X12_workLine_73 (fun L124 gL124_2 kL124 => ?_)
        have gL124_1 : cv_get L124 1 = some (cv_i x119) := kL124 1 _ (by decide) (fun _ => rfl) gL120_1
        have gL124_0 : cv_get L124 0 = some (cv_r 111) := kL124 0 _ (by decide) (fun q => absurd q (by decide)) gL120_0
        refine ex_il oq_X12_workLine_74 gL124_2 ?_
        refine ex_if0 oq_X12_workLine_75 (t := 84) rfl rfl (fun (c125 : 0 ≤ x123.toInt) => ?_) (fun (c125 : ¬ (0 ≤ x123.toInt)) => ?_)
        · refine ex_al oq_X12_workLine_84 gL124_0 ?_
          refine ex_gf oq_X12_workLine_85 Th122 (k := 111) (d := 12) rfl rfl (fr_workHas Th122) ?_
          refine ex_il oq_X12_workLine_88 gL124_1 ?_
          refine ex_ic oq_X12_workLine_89 (m := 1) (by decide) (fun x126 hx126 => ?_)
          refine ex_add oq_X12_workLine_90 (by omega) (fun x127 hx127 => ?_)
          refine ex_il oq_X12_workLine_91 gL124_2 ?_
          refine ex_iw oq_X12_workLine_92 Th122 (k := 122) (d := 61) (j := 18 + 3 * l.length + 1) rfl rfl (by omega) (by omega) (fun r hr => zw_get hr _ (cw_i32 _)) (fun h128 Th128 wh128 => ?_)
          have Fh128 : cw_Fr cw_Ds cw_sh mk_wo h0 h128 := cw_Fr_tr Fh122 (cw_Fr_wrr wh128 (k := 122) (d := 61) rfl rfl (by decide +kernel))
          have eh128_111_4 : ri_at h128 111 4 = ri_at h113 111 4 := (ri_ne wh128 (.inl (by decide))).trans eh122_111_4
          clear eh122_111_4
          have eh128_111_5 : ri_at h128 111 5 = ri_at h113 111 5 := (ri_ne wh128 (.inl (by decide))).trans eh122_111_5
          clear eh122_111_5
          have eh128_111_6 : ri_at h128 111 6 = (n : Int) := (ri_ne wh128 (.inl (by decide))).trans eh122_111_6
          clear eh122_111_6
          have eh128_111_7 : ri_at h128 111 7 = ((zx t n p2 : Nat) : Int) := (ri_ne wh128 (.inl (by decide))).trans eh122_111_7
          clear eh122_111_7
          have eh128_111_8 : ri_at h128 111 8 = zk t n p2 := (ri_ne wh128 (.inl (by decide))).trans eh122_111_8
          clear eh122_111_8
          have eh128_111_10 : ri_at h128 111 10 = ((za t n p2 : Nat) : Int) := (ri_ne wh128 (.inl (by decide))).trans eh122_111_10
          clear eh122_111_10
          have eh128_111_11 : ri_at h128 111 11 = w := (ri_ne wh128 (.inl (by decide))).trans eh122_111_11
          clear eh122_111_11
          have eh128_111_17 : ri_at h128 111 17 = ri_at h0 111 17 := (ri_ne wh128 (.inl (by decide))).trans eh122_111_17
          clear eh122_111_17
          have Zh128 := zR_wr wh128 Zh122 (.inl (by decide))
          refine ex_al oq_X12_workLine_93 gL124_0 ?_
          refine ex_gf oq_X12_workLine_94 Th128 (k := 111) (d := 12) rfl rfl (fr_workHas Th128) ?_
          refine ex_il oq_X12_workLine_97 gL124_1 ?_
          refine ex_ic oq_X12_workLine_98 (m := 2) (by decide) (fun x129 hx129 => ?_)
          refine ex_add oq_X12_workLine_99 (by omega) (fun x130 hx130 => ?_)
          refine ex_ic oq_X12_workLine_100 (m := 0) (by decide) (fun x131 hx131 => ?_)
          refine ex_iw oq_X12_workLine_101 Th128 (k := 122) (d := 61) (j := 18 + 3 * l.length + 2) rfl rfl (by omega) (by omega) (fun r hr => zw_get hr _ (cw_i32 _)) (fun h132 Th132 wh132 => ?_)
          have Fh132 : cw_Fr cw_Ds cw_sh mk_wo h0 h132 := cw_Fr_tr Fh128 (cw_Fr_wrr wh132 (k := 122) (d := 61) rfl rfl (by decide +kernel))
          have eh132_111_4 : ri_at h132 111 4 = ri_at h113 111 4 := (ri_ne wh132 (.inl (by decide))).trans eh128_111_4
          clear eh128_111_4
          have eh132_111_5 : ri_at h132 111 5 = ri_at h113 111 5 := (ri_ne wh132 (.inl (by decide))).trans eh128_111_5
          clear eh128_111_5
          have eh132_111_6 : ri_at h132 111 6 = (n : Int) := (ri_ne wh132 (.inl (by decide))).trans eh128_111_6
          clear eh128_111_6
          have eh132_111_7 : ri_at h132 111 7 = ((zx t n p2 : Nat) : Int) := (ri_ne wh132 (.inl (by decide))).trans eh128_111_7
          clear eh128_111_7
          have eh132_111_8 : ri_at h132 111 8 = zk t n p2 := (ri_ne wh132 (.inl (by decide))).trans eh128_111_8
          clear eh128_111_8
          have eh132_111_10 : ri_at h132 111 10 = ((za t n p2 : Nat) : Int) := (ri_ne wh132 (.inl (by decide))).trans eh128_111_10
          clear eh128_111_10
          have eh132_111_11 : ri_at h132 111 11 = w := (ri_ne wh132 (.inl (by decide))).trans eh128_111_11
          clear eh128_111_11
          have eh132_111_17 : ri_at h132 111 17 = ri_at h0 111 17 := (ri_ne wh132 (.inl (by decide))).trans eh128_111_17
          clear eh128_111_17
          have Zh132 := zR_wr wh132 Zh128 (.inl (by decide))
          refine ex_al oq_X12_workLine_102 gL124_0 ?_
          refine ex_cv oq_X12_workLine_103 (by decide) Th132 (k := 111) (d := 12) (as := []) (stk := []) rfl rfl rfl rfl rfl rfl ⟨rfl, rfl⟩ (R := fun o => ∃ hb : cv_H, o = (none, hb) ∧ cw_T G hb ∧ cw_Fr cw_Ds cw_sh kk_X12_token.2.2.2.2.2.1 h132 hb ∧ zR t n (zx t n p2) hb) (rt_tok (t := t) (n := n) (p := (zx t n p2)) (fun i hi => by rw [ht i hi, ← hA _ Fh132]) hn9 (fun i hi => by rw [hB _ Fh132]; exact hwr i hi) Th132 (zx_le (by omega)) (by omega) (by omega) (fun hb b1 b2 b3 => ⟨hb, rfl, b1, b2, b3⟩)) (fun o ho => ?_)
          obtain ⟨h133, rfl, Th133, Ch133, Zh133⟩ := ho
          show cw_X _ _ _ _ _ [] h133
          have Fh133 : cw_Fr cw_Ds cw_sh mk_wo h0 h133 := cw_Fr_tr Fh132 (cw_Fr_mono (by decide +kernel) Ch133)
          have eh133_111_4 : ri_at h133 111 4 = ri_at h113 111 4 := (ri_frf Ch133 (d := 12) rfl rfl (by decide +kernel)).trans eh132_111_4
          clear eh132_111_4
          have eh133_111_5 : ri_at h133 111 5 = ri_at h113 111 5 := (ri_frf Ch133 (d := 12) rfl rfl (by decide +kernel)).trans eh132_111_5
          clear eh132_111_5
          have eh133_111_11 : ri_at h133 111 11 = w := (ri_frf Ch133 (d := 12) rfl rfl (by decide +kernel)).trans eh132_111_11
          clear eh132_111_11
          have eh133_111_17 : ri_at h133 111 17 = ri_at h0 111 17 := (ri_frf Ch133 (d := 12) rfl rfl (by decide +kernel)).trans eh132_111_17
          clear eh132_111_17
          obtain ⟨yah133, ybh133, ych133, ydh133, -⟩ := id Zh133
          have zlh133 := zx_le (t := t) (n := n) (p := (zx t n p2)) (by omega)
          clear eh132_111_6 eh132_111_10 eh132_111_7 eh132_111_8
          refine ex_il oq_X12_workLine_106 gL124_2 ?_
          refine ex_ic oq_X12_workLine_107 (m := 1) (by decide) (fun x134 hx134 => ?_)
          refine ex_if oq_X12_workLine_108 (t := 137) rfl rfl (fun (c135 : x123.toInt ≤ x134.toInt) => ?_) (fun (c135 : ¬ (x123.toInt ≤ x134.toInt)) => ?_)
          · exfalso; omega
          · refine ex_al oq_X12_workLine_111 gL124_0 ?_
            refine ex_ic oq_X12_workLine_112 (m := 0) (by decide) (fun x136 hx136 => ?_)
            refine ex_il oq_X12_workLine_113 gL124_2 ?_
            refine ex_cs oq_X12_workLine_114 (by decide) (as := [cv_i x123]) (stk := [cv_i x136, cv_r 111]) rfl rfl rfl ⟨rfl, rfl⟩ (R := fun o => ∃ x : Int32, o = (some (cv_i x), h133) ∧ x.toInt = zmo x123.toInt) (rt_mostOf x123 (fun x q => ⟨x, rfl, q⟩)) (fun o ho => ?_)
            obtain ⟨x137, rfl, mx137⟩ := ho
            show cw_X _ _ _ _ _ [cv_i x137, cv_i x136, cv_r 111] h133
            have mb := zmo_b (k := x123.toInt)
            have mz : x137.toInt = zmo (zwk (zk t n p2) (zw t n p2)) := by rw [mx137, wx123]
            refine ex_cv oq_X12_workLine_117 (by decide) Th133 (k := 111) (d := 12) (as := [cv_i x136, cv_i x137]) (stk := []) rfl rfl rfl rfl rfl rfl ⟨rfl, rfl⟩ (R := fun o => ∃ (x : Int32) (hb : cv_H), o = (some (cv_i x), hb) ∧ cw_T G hb ∧ cw_Fr cw_Ds cw_sh kk_X12_number.2.2.2.2.2.1 h133 hb ∧ zRe t n h133 hb x (zn t n x136.toInt x137.toInt (zx t n p2)) (fun v => ri_at hb 111 11 = v)) (rt_number (t := t) (n := n) (p := (zx t n p2)) (fun i hi => by rw [ht i hi, ← hA _ Fh133]) hn9 Th133 (fun i hi => by rw [hB _ Fh133]; exact hwr i hi) (by omega) Zh133 x136 x137 (fun x hb b1 b2 b3 => ⟨x, hb, rfl, b1, b2, b3⟩)) (fun o ho => ?_)
            obtain ⟨x138, h139, rfl, Th139, Ch139, dx138⟩ := ho
            show cw_X _ _ _ _ _ [cv_i x138] h139
            have Fh139 : cw_Fr cw_Ds cw_sh mk_wo h0 h139 := cw_Fr_tr Fh133 (cw_Fr_mono (by decide +kernel) Ch139)
            rw [hx136, show x137.toInt = zmo (zwk (zk t n p2) (zw t n p2)) from by exact mz] at dx138
            rw [E4] at dx138
            obtain ⟨wx138, lx138, Zh139, Dh139⟩ := zRe_r dx138
            clear dx138
            have eh139_111_17 : ri_at h139 111 17 = ri_at h0 111 17 := (ri_frf Ch139 (d := 12) rfl rfl (by decide +kernel)).trans eh133_111_17
            clear eh133_111_17
            obtain ⟨yah139, ybh139, ych139, ydh139, -⟩ := id Zh139
            have zlh139 := zx_le (t := t) (n := n) (p := p3) (by omega)
            clear yah133 ybh133 ych133 ydh133
            refine ex_if0 oq_X12_workLine_120 (t := 125) rfl rfl (fun (c140 : ¬ x138.toInt = 0) => ?_) (fun (c140 : ¬ (¬ x138.toInt = 0)) => ?_)
            · refine ex_al oq_X12_workLine_125 gL124_0 ?_
              refine ex_gf oq_X12_workLine_126 Th139 (k := 111) (d := 12) rfl rfl (fr_workHas Th139) ?_
              refine ex_il oq_X12_workLine_129 gL124_1 ?_
              refine ex_ic oq_X12_workLine_130 (m := 2) (by decide) (fun x141 hx141 => ?_)
              refine ex_add oq_X12_workLine_131 (by omega) (fun x142 hx142 => ?_)
              refine ex_al oq_X12_workLine_132 gL124_0 ?_
              obtain ⟨x143, ax143, rx143, lx143, ux143⟩ := fi_got Th139
              refine ex_gf oq_X12_workLine_133 Th139 (k := 111) (d := 12) rfl rfl ax143 ?_
              have rx143 := (rx143.symm.trans Dh139 : x143.toInt = k)
              refine ex_iw oq_X12_workLine_136 Th139 (k := 122) (d := 61) (j := 18 + 3 * l.length + 2) rfl rfl (by omega) (by omega) (fun r hr => zw_get hr _ (cw_i32 _)) (fun h144 Th144 wh144 => ?_)
              have Fh144 : cw_Fr cw_Ds cw_sh mk_wo h0 h144 := cw_Fr_tr Fh139 (cw_Fr_wrr wh144 (k := 122) (d := 61) rfl rfl (by decide +kernel))
              have eh144_111_4 : ri_at h144 111 4 = ri_at h139 111 4 := ri_ne wh144 (.inl (by decide))
              have eh144_111_5 : ri_at h144 111 5 = ri_at h139 111 5 := ri_ne wh144 (.inl (by decide))
              have eh144_111_6 : ri_at h144 111 6 = (n : Int) := (ri_ne wh144 (.inl (by decide))).trans yah139
              have eh144_111_7 : ri_at h144 111 7 = ((zx t n p3 : Nat) : Int) := (ri_ne wh144 (.inl (by decide))).trans ych139
              have eh144_111_8 : ri_at h144 111 8 = zk t n p3 := (ri_ne wh144 (.inl (by decide))).trans ydh139
              have eh144_111_10 : ri_at h144 111 10 = ((za t n p3 : Nat) : Int) := (ri_ne wh144 (.inl (by decide))).trans ybh139
              have eh144_111_11 : ri_at h144 111 11 = k := (ri_ne wh144 (.inl (by decide))).trans Dh139
              have eh144_111_17 : ri_at h144 111 17 = ri_at h0 111 17 := (ri_ne wh144 (.inl (by decide))).trans eh139_111_17
              clear eh139_111_17
              have Zh144 := zR_wr wh144 Zh139 (.inl (by decide))
              refine ex_al oq_X12_workLine_137 gL124_0 ?_
              refine ex_dup oq_X12_workLine_138 rfl ?_
              obtain ⟨x145, ax145, rx145, lx145, ux145⟩ := fi_worksRead Th144
              refine ex_gf oq_X12_workLine_139 Th144 (k := 111) (d := 12) rfl rfl ax145 ?_
              have rx145 := (rx145.symm.trans eh144_111_17 : x145.toInt = ri_at h0 111 17)
              refine ex_ic oq_X12_workLine_142 (m := 1) (by decide) (fun x146 hx146 => ?_)
              refine ex_add oq_X12_workLine_143 (by omega) (fun x147 hx147 => ?_)
              refine ex_pfi oq_X12_workLine_144 Th144 (k := 111) (d := 12) rfl rfl rfl (by omega) (by omega) (fun h148 Th148 wh148 => ?_)
              have Fh148 : cw_Fr cw_Ds cw_sh mk_wo h0 h148 := cw_Fr_tr Fh144 (cw_Fr_wrf wh148 (k := 111) (d := 12) rfl rfl (by decide +kernel))
              have eh148_111_4 : ri_at h148 111 4 = ri_at h139 111 4 := (ri_ne wh148 (by decide)).trans eh144_111_4
              clear eh144_111_4
              have eh148_111_5 : ri_at h148 111 5 = ri_at h139 111 5 := (ri_ne wh148 (by decide)).trans eh144_111_5
              clear eh144_111_5
              have eh148_111_6 : ri_at h148 111 6 = (n : Int) := (ri_ne wh148 (by decide)).trans eh144_111_6
              clear eh144_111_6
              have eh148_111_7 : ri_at h148 111 7 = ((zx t n p3 : Nat) : Int) := (ri_ne wh148 (by decide)).trans eh144_111_7
              clear eh144_111_7
              have eh148_111_8 : ri_at h148 111 8 = zk t n p3 := (ri_ne wh148 (by decide)).trans eh144_111_8
              clear eh144_111_8
              have eh148_111_10 : ri_at h148 111 10 = ((za t n p3 : Nat) : Int) := (ri_ne wh148 (by decide)).trans eh144_111_10
              clear eh144_111_10
              have eh148_111_11 : ri_at h148 111 11 = k := (ri_ne wh148 (by decide)).trans eh144_111_11
              clear eh144_111_11
              have eh148_111_17 : ri_at h148 111 17 = x147.toInt := ri_self wh148
              have Zh148 := zR_wr wh148 Zh144 (.inr (by decide))
              refine ex_ic oq_X12_workLine_147 (m := 1) (by decide) (fun x149 hx149 => ?_)
              exact ex_retb oq_X12_workLine_148 rfl (by omega) (by omega) (hQ x149 h148 Th148 Fh148 ((((ri_ne wh148 (.inl (by decide))).trans ((ri_ne wh144 (.inr (by omega))).trans ((ri_frq Ch139 (k := 122) (d := 61) rfl rfl (by decide) (by decide +kernel)).trans ((ri_frq Ch133 (k := 122) (d := 61) rfl rfl (by decide) (by decide +kernel)).trans ((ri_ne wh132 (.inr (by omega))).trans ((ri_ne wh128 (.inr (by omega))).trans (ri_self wh122)))))))).trans (show x121.toInt = w from by omega)) ((((ri_ne wh148 (.inl (by decide))).trans ((ri_ne wh144 (.inr (by omega))).trans ((ri_frq Ch139 (k := 122) (d := 61) rfl rfl (by decide) (by decide +kernel)).trans ((ri_frq Ch133 (k := 122) (d := 61) rfl rfl (by decide) (by decide +kernel)).trans ((ri_ne wh132 (.inr (by omega))).trans (ri_self wh128))))))).trans (show x123.toInt = (zwk (zk t n p2) (zw t n p2)) from by omega)) ((((ri_ne wh148 (.inl (by decide))).trans (ri_self wh144))).trans (show x143.toInt = k from by omega)) (fun j hj => ((ri_ne wh148 (.inl (by decide))).trans ((ri_ne wh144 (.inr (by omega))).trans ((ri_frq Ch139 (k := 122) (d := 61) rfl rfl (by decide) (by decide +kernel)).trans ((ri_frq Ch133 (k := 122) (d := 61) rfl rfl (by decide) (by decide +kernel)).trans ((ri_ne wh132 (.inr (by omega))).trans ((ri_ne wh128 (.inr (by omega))).trans ((ri_ne wh122 (.inr (by omega))).trans ((ri_frq Ch113 (k := 122) (d := 61) rfl rfl (by decide) (by decide +kernel)).trans ((ri_frq Ch108 (k := 122) (d := 61) rfl rfl (by decide) (by decide +kernel)).trans (ri_frq Ch104 (k := 122) (d := 61) rfl rfl (by decide) (by decide +kernel)))))))))))))
            · exfalso; omega
        · exfalso; omega
      · exfalso; omega
  · exfalso; omega
set_option maxHeartbeats 8000000 in
theorem rt_workLineDB {h0 : cv_H} {n p : Nat} (ht : ∀ i, i < n → t i = ri_at h0 112 i) (hn9 : n ≤ 900) (hT : cw_T G h0) (hwr : ∀ i, i < 177 → ri_at h0 113 i = pp_words.getD i 0) (hpn : p ≤ n) (hz : zR t n p h0) {l : List Int} (hc : ri_at h0 111 17 = l.length) (hlm : l.length < 6) (hl : ∀ k, k < l.length → ri_at h0 121 (6 + k) = l.getD k 0) {nm w : Int} {p1 p2 : Nat} (E1 : zm t n l (zx t n p) = .inr (nm, p1)) (E2 : zn t n 1 999 p1 = .inr (w, p2)) (E3 : 0 ≤ (zwk (zk t n p2) (zw t n p2))) (E3b : (zwk (zk t n p2) (zw t n p2)) ≤ 1) (hQ : ∀ (x : Int32) h', cw_T G h' → cw_Fr cw_Ds cw_sh mk_wo h0 h' → ri_at h' 122 (18 + 3 * l.length) = w → ri_at h' 122 (18 + 3 * l.length + 1) = (zwk (zk t n p2) (zw t n p2)) → ri_at h' 122 (18 + 3 * l.length + 2) = 0 → (∀ j, j < 18 + 3 * l.length → ri_at h' 122 j = ri_at h0 122 j) → Q (some (cv_i x), h')) : cw_X X 185 Q 0 (cv_ent 0 [cv_r 111]) [] h0 := by
  have Fh0 : cw_Fr cw_Ds cw_sh mk_wo h0 h0 := cw_Fr_refl
  have zxl := zx_le (t := t) hpn
  obtain ⟨z1, z2, z3, z4, z5⟩ := id hz
  replace z5 := zhd_i z5
  have hA : ∀ h, cw_Fr cw_Ds cw_sh mk_wo h0 h → ∀ i, ri_at h 112 i = ri_at h0 112 i := fun h F i => ri_frr F (k := 112) (d := 51) rfl rfl (by decide +kernel)
  have hB : ∀ h, cw_Fr cw_Ds cw_sh mk_wo h0 h → ∀ i, ri_at h 113 i = ri_at h0 113 i := fun h F i => ri_frr F (k := 113) (d := 52) rfl rfl (by decide +kernel)
  refine ex_al oq_X12_workLine_0 rfl ?_
  obtain ⟨x101, ax101, rx101, lx101, ux101⟩ := fi_worksRead hT
  refine ex_gf oq_X12_workLine_1 hT (k := 111) (d := 12) rfl rfl ax101 ?_
  refine ex_bi oq_X12_workLine_4 (m := 6) (by decide) (fun x102 hx102 => ?_)
  refine ex_if oq_X12_workLine_6 (t := 15) rfl rfl (fun (c103 : ¬ x101.toInt = x102.toInt) => ?_) (fun (c103 : ¬ (¬ x101.toInt = x102.toInt)) => ?_)
  · refine ex_al oq_X12_workLine_15 rfl ?_
    refine ex_cv oq_X12_workLine_16 (by decide) hT (k := 111) (d := 12) (as := []) (stk := []) rfl rfl rfl rfl rfl rfl ⟨rfl, rfl⟩ (R := fun o => ∃ hb : cv_H, o = (none, hb) ∧ cw_T G hb ∧ cw_Fr cw_Ds cw_sh kk_X12_token.2.2.2.2.2.1 h0 hb ∧ zR t n (zx t n p) hb) (rt_tok (t := t) (n := n) (p := (zx t n p)) (fun i hi => by rw [ht i hi, ← hA _ Fh0]) hn9 (fun i hi => by rw [hB _ Fh0]; exact hwr i hi) hT (zx_le (by omega)) (by omega) (by omega) (fun hb b1 b2 b3 => ⟨hb, rfl, b1, b2, b3⟩)) (fun o ho => ?_)
    obtain ⟨h104, rfl, Th104, Ch104, Zh104⟩ := ho
    show cw_X _ _ _ _ _ [] h104
    have Fh104 : cw_Fr cw_Ds cw_sh mk_wo h0 h104 := cw_Fr_tr Fh0 (cw_Fr_mono (by decide +kernel) Ch104)
    have eh104_111_4 : ri_at h104 111 4 = ri_at h0 111 4 := ri_frf Ch104 (d := 12) rfl rfl (by decide +kernel)
    have eh104_111_5 : ri_at h104 111 5 = ri_at h0 111 5 := ri_frf Ch104 (d := 12) rfl rfl (by decide +kernel)
    have eh104_111_11 : ri_at h104 111 11 = ri_at h0 111 11 := ri_frf Ch104 (d := 12) rfl rfl (by decide +kernel)
    have eh104_111_17 : ri_at h104 111 17 = ri_at h0 111 17 := ri_frf Ch104 (d := 12) rfl rfl (by decide +kernel)
    obtain ⟨yah104, ybh104, ych104, ydh104, -⟩ := id Zh104
    have zlh104 := zx_le (t := t) (n := n) (p := (zx t n p)) (by omega)
    refine ex_al oq_X12_workLine_19 rfl ?_
    refine ex_al oq_X12_workLine_20 rfl ?_
    refine ex_gf oq_X12_workLine_21 Th104 (k := 111) (d := 12) rfl rfl (fr_workName Th104) ?_
    refine ex_bi oq_X12_workLine_24 (m := 6) (by decide) (fun x105 hx105 => ?_)
    refine ex_al oq_X12_workLine_26 rfl ?_
    obtain ⟨x106, ax106, rx106, lx106, ux106⟩ := fi_worksRead Th104
    refine ex_gf oq_X12_workLine_27 Th104 (k := 111) (d := 12) rfl rfl ax106 ?_
    have rx106 := (rx106.symm.trans eh104_111_17 : x106.toInt = ri_at h0 111 17)
    have hlh104 : ∀ k, k < l.length → ri_at h104 121 (6 + k) = l.getD k 0 := fun k hk => by rw [show ri_at h104 121 (6 + k) = ri_at h0 121 (6 + k) from (ri_frr Ch104 (k := 121) (d := 60) rfl rfl (by decide +kernel))]; exact hl k hk
    refine ex_cv oq_X12_workLine_30 (by decide) Th104 (k := 111) (d := 12) (as := [cv_r 121, cv_i x105, cv_i x106]) (stk := []) rfl rfl rfl rfl rfl rfl ⟨rfl, rfl⟩ (R := fun o => ∃ (x : Int32) (hb : cv_H), o = (some (cv_i x), hb) ∧ cw_T G hb ∧ cw_Fr cw_Ds cw_sh kk_X12_newName_1.2.2.2.2.2.1 h104 hb ∧ zRe t n h104 hb x (zm t n l (zx t n p)) (fun v => (∀ k, k < l.length → ri_at hb 121 (6 + k) = l.getD k 0) ∧ ri_at hb 121 (6 + l.length) = v)) (rt_newNameW (t := t) (n := n) (p := (zx t n p)) (l := l) (fun i hi => by rw [ht i hi, ← hA _ Fh104]) hn9 Th104 (fun i hi => by rw [hB _ Fh104]; exact hwr i hi) (by omega) Zh104 (by omega) (by omega) (by omega) hlh104 (fun x hb b1 b2 b3 => ⟨x, hb, rfl, b1, b2, b3⟩)) (fun o ho => ?_)
    obtain ⟨x107, h108, rfl, Th108, Ch108, dx107⟩ := ho
    show cw_X _ _ _ _ _ [cv_i x107] h108
    have Fh108 : cw_Fr cw_Ds cw_sh mk_wo h0 h108 := cw_Fr_tr Fh104 (cw_Fr_mono (by decide +kernel) Ch108)
    rw [E1] at dx107
    obtain ⟨wx107, lx107, Zh108, Dh108⟩ := zRe_r dx107
    clear dx107
    have eh108_111_17 : ri_at h108 111 17 = ri_at h0 111 17 := (ri_frf Ch108 (d := 12) rfl rfl (by decide +kernel)).trans eh104_111_17
    clear eh104_111_17
    obtain ⟨yah108, ybh108, ych108, ydh108, -⟩ := id Zh108
    have zlh108 := zx_le (t := t) (n := n) (p := p1) (by omega)
    clear yah104 ybh104 ych104 ydh104
    refine ex_if0 oq_X12_workLine_33 (t := 47) rfl rfl (fun (c109 : x107.toInt = 0) => ?_) (fun (c109 : ¬ (x107.toInt = 0)) => ?_)
    · exfalso; omega
    · replace c109 : ¬ x107.toInt = 0 := by omega
      refine ex_al oq_X12_workLine_36 rfl ?_
      refine ex_ic oq_X12_workLine_37 (m := 1) (by decide) (fun x110 hx110 => ?_)
      refine ex_si oq_X12_workLine_38 (m := 999) (by decide) (fun x111 hx111 => ?_)
      refine ex_cv oq_X12_workLine_41 (by decide) Th108 (k := 111) (d := 12) (as := [cv_i x110, cv_i x111]) (stk := []) rfl rfl rfl rfl rfl rfl ⟨rfl, rfl⟩ (R := fun o => ∃ (x : Int32) (hb : cv_H), o = (some (cv_i x), hb) ∧ cw_T G hb ∧ cw_Fr cw_Ds cw_sh kk_X12_number.2.2.2.2.2.1 h108 hb ∧ zRe t n h108 hb x (zn t n x110.toInt x111.toInt p1) (fun v => ri_at hb 111 11 = v)) (rt_number (t := t) (n := n) (p := p1) (fun i hi => by rw [ht i hi, ← hA _ Fh108]) hn9 Th108 (fun i hi => by rw [hB _ Fh108]; exact hwr i hi) (by omega) Zh108 x110 x111 (fun x hb b1 b2 b3 => ⟨x, hb, rfl, b1, b2, b3⟩)) (fun o ho => ?_)
      obtain ⟨x112, h113, rfl, Th113, Ch113, dx112⟩ := ho
      show cw_X _ _ _ _ _ [cv_i x112] h113
      have Fh113 : cw_Fr cw_Ds cw_sh mk_wo h0 h113 := cw_Fr_tr Fh108 (cw_Fr_mono (by decide +kernel) Ch113)
      rw [hx110, hx111] at dx112
      rw [E2] at dx112
      obtain ⟨wx112, lx112, Zh113, Dh113⟩ := zRe_r dx112
      clear dx112
      have eh113_111_17 : ri_at h113 111 17 = ri_at h0 111 17 := (ri_frf Ch113 (d := 12) rfl rfl (by decide +kernel)).trans eh108_111_17
      clear eh108_111_17
      obtain ⟨yah113, ybh113, ych113, ydh113, -⟩ := id Zh113
      have zlh113 := zx_le (t := t) (n := n) (p := p2) (by omega)
      clear yah108 ybh108 ych108 ydh108
      refine ex_if0 oq_X12_workLine_44 (t := 49) rfl rfl (fun (c114 : ¬ x112.toInt = 0) => ?_) (fun (c114 : ¬ (¬ x112.toInt = 0)) => ?_)
      · refine ex_bi oq_X12_workLine_49 (m := 18) (by decide) (fun x115 hx115 => ?_)
        refine ex_ic oq_X12_workLine_51 (m := 3) (by decide) (fun x116 hx116 => ?_)
        refine ex_al oq_X12_workLine_52 rfl ?_
        obtain ⟨x117, ax117, rx117, lx117, ux117⟩ := fi_worksRead Th113
        refine ex_gf oq_X12_workLine_53 Th113 (k := 111) (d := 12) rfl rfl ax117 ?_
        have rx117 := (rx117.symm.trans eh113_111_17 : x117.toInt = ri_at h0 111 17)
        refine ex_mul oq_X12_workLine_56 (m := 3 * x117.toInt) (by rw [hx116]) (by omega) (fun x118 hx118 => ?_)
        refine ex_add oq_X12_workLine_57 (by omega) (fun x119 hx119 => ?_)
        refine ex_isA oq_X12_workLine_58 (fun L120 gL120_1 kL120 => ?_)
        have gL120_0 : cv_get L120 0 = some (cv_r 111) := kL120 0 _ (by decide) (fun _ => rfl) rfl
        refine ex_al oq_X12_workLine_59 gL120_0 ?_
        refine ex_gf oq_X12_workLine_60 Th113 (k := 111) (d := 12) rfl rfl (fr_workHas Th113) ?_
        refine ex_il oq_X12_workLine_63 gL120_1 ?_
        refine ex_al oq_X12_workLine_64 gL120_0 ?_
        obtain ⟨x121, ax121, rx121, lx121, ux121⟩ := fi_got Th113
        refine ex_gf oq_X12_workLine_65 Th113 (k := 111) (d := 12) rfl rfl ax121 ?_
        have rx121 := (rx121.symm.trans Dh113 : x121.toInt = w)
        refine ex_iw oq_X12_workLine_68 Th113 (k := 122) (d := 61) (j := 18 + 3 * l.length) rfl rfl (by omega) (by omega) (fun r hr => zw_get hr _ (cw_i32 _)) (fun h122 Th122 wh122 => ?_)
        have Fh122 : cw_Fr cw_Ds cw_sh mk_wo h0 h122 := cw_Fr_tr Fh113 (cw_Fr_wrr wh122 (k := 122) (d := 61) rfl rfl (by decide +kernel))
        have eh122_111_4 : ri_at h122 111 4 = ri_at h113 111 4 := ri_ne wh122 (.inl (by decide))
        have eh122_111_5 : ri_at h122 111 5 = ri_at h113 111 5 := ri_ne wh122 (.inl (by decide))
        have eh122_111_6 : ri_at h122 111 6 = (n : Int) := (ri_ne wh122 (.inl (by decide))).trans yah113
        have eh122_111_7 : ri_at h122 111 7 = ((zx t n p2 : Nat) : Int) := (ri_ne wh122 (.inl (by decide))).trans ych113
        have eh122_111_8 : ri_at h122 111 8 = zk t n p2 := (ri_ne wh122 (.inl (by decide))).trans ydh113
        have eh122_111_10 : ri_at h122 111 10 = ((za t n p2 : Nat) : Int) := (ri_ne wh122 (.inl (by decide))).trans ybh113
        have eh122_111_11 : ri_at h122 111 11 = w := (ri_ne wh122 (.inl (by decide))).trans Dh113
        have eh122_111_17 : ri_at h122 111 17 = ri_at h0 111 17 := (ri_ne wh122 (.inl (by decide))).trans eh113_111_17
        clear eh113_111_17
        have Zh122 := zR_wr wh122 Zh113 (.inl (by decide))
        refine ex_al oq_X12_workLine_69 gL120_0 ?_
        refine ex_cv oq_X12_workLine_70 (by decide) Th122 (k := 111) (d := 12) (as := []) (stk := []) rfl rfl rfl rfl rfl rfl ⟨rfl, rfl⟩ (R := fun o => ∃ x : Int32, o = (some (cv_i x), h122) ∧ x.toInt = zwk (zk t n p2) (zw t n p2)) (rt_workWord (t := t) (n := n) (p := p2) Th122 Zh122 (fun x q => ⟨x, rfl, q⟩)) (fun o ho => ?_)
        obtain ⟨x123, rfl, wx123⟩ := ho
        show cw_X _ _ _ _ _ [cv_i x123] h122
        have wb := zwk_b (k := zk t n p2) (w := zw t n p2)
        refine ex_isA oq_X12_workLine_73 (fun L124 gL124_2 kL124 => ?_)
        have gL124_1 : cv_get L124 1 = some (cv_i x119) := kL124 1 _ (by decide) (fun _ => rfl) gL120_1
        have gL124_0 : cv_get L124 0 = some (cv_r 111) := kL124 0 _ (by decide) (fun q => absurd q (by decide)) gL120_0
        refine ex_il oq_X12_workLine_74 gL124_2 ?_
        refine ex_if0 oq_X12_workLine_75 (t := 84) rfl rfl (fun (c125 : 0 ≤ x123.toInt) => ?_) (fun (c125 : ¬ (0 ≤ x123.toInt)) => ?_)
        · refine ex_al oq_X12_workLine_84 gL124_0 ?_
          refine ex_gf oq_X12_workLine_85 Th122 (k := 111) (d := 12) rfl rfl (fr_workHas Th122) ?_
          refine ex_il oq_X12_workLine_88 gL124_1 ?_
          refine ex_ic oq_X12_workLine_89 (m := 1) (by decide) (fun x126 hx126 => ?_)
          refine ex_add oq_X12_workLine_90 (by omega) (fun x127 hx127 => ?_)
          refine ex_il oq_X12_workLine_91 gL124_2 ?_
          refine ex_iw oq_X12_workLine_92 Th122 (k := 122) (d := 61) (j := 18 + 3 * l.length + 1) rfl rfl (by omega) (by omega) (fun r hr => zw_get hr _ (cw_i32 _)) (fun h128 Th128 wh128 => ?_)
          have Fh128 : cw_Fr cw_Ds cw_sh mk_wo h0 h128 := cw_Fr_tr Fh122 (cw_Fr_wrr wh128 (k := 122) (d := 61) rfl rfl (by decide +kernel))
          have eh128_111_4 : ri_at h128 111 4 = ri_at h113 111 4 := (ri_ne wh128 (.inl (by decide))).trans eh122_111_4
          clear eh122_111_4
          have eh128_111_5 : ri_at h128 111 5 = ri_at h113 111 5 := (ri_ne wh128 (.inl (by decide))).trans eh122_111_5
          clear eh122_111_5
          have eh128_111_6 : ri_at h128 111 6 = (n : Int) := (ri_ne wh128 (.inl (by decide))).trans eh122_111_6
          clear eh122_111_6
          have eh128_111_7 : ri_at h128 111 7 = ((zx t n p2 : Nat) : Int) := (ri_ne wh128 (.inl (by decide))).trans eh122_111_7
          clear eh122_111_7
          have eh128_111_8 : ri_at h128 111 8 = zk t n p2 := (ri_ne wh128 (.inl (by decide))).trans eh122_111_8
          clear eh122_111_8
          have eh128_111_10 : ri_at h128 111 10 = ((za t n p2 : Nat) : Int) := (ri_ne wh128 (.inl (by decide))).trans eh122_111_10
          clear eh122_111_10
          have eh128_111_11 : ri_at h128 111 11 = w := (ri_ne wh128 (.inl (by decide))).trans eh122_111_11
          clear eh122_111_11
          have eh128_111_17 : ri_at h128 111 17 = ri_at h0 111 17 := (ri_ne wh128 (.inl (by decide))).trans eh122_111_17
          clear eh122_111_17
          have Zh128 := zR_wr wh128 Zh122 (.inl (by decide))
          refine ex_al oq_X12_workLine_93 gL124_0 ?_
          refine ex_gf oq_X12_workLine_94 Th128 (k := 111) (d := 12) rfl rfl (fr_workHas Th128) ?_
          refine ex_il oq_X12_workLine_97 gL124_1 ?_
          refine ex_ic oq_X12_workLine_98 (m := 2) (by decide) (fun x129 hx129 => ?_)
          refine ex_add oq_X12_workLine_99 (by omega) (fun x130 hx130 => ?_)
          refine ex_ic oq_X12_workLine_100 (m := 0) (by decide) (fun x131 hx131 => ?_)
          refine ex_iw oq_X12_workLine_101 Th128 (k := 122) (d := 61) (j := 18 + 3 * l.length + 2) rfl rfl (by omega) (by omega) (fun r hr => zw_get hr _ (cw_i32 _)) (fun h132 Th132 wh132 => ?_)
          have Fh132 : cw_Fr cw_Ds cw_sh mk_wo h0 h132 := cw_Fr_tr Fh128 (cw_Fr_wrr wh132 (k := 122) (d := 61) rfl rfl (by decide +kernel))
          have eh132_111_4 : ri_at h132 111 4 = ri_at h113 111 4 := (ri_ne wh132 (.inl (by decide))).trans eh128_111_4
          clear eh128_111_4
          have eh132_111_5 : ri_at h132 111 5 = ri_at h113 111 5 := (ri_ne wh132 (.inl (by decide))).trans eh128_111_5
          clear eh128_111_5
          have eh132_111_6 : ri_at h132 111 6 = (n : Int) := (ri_ne wh132 (.inl (by decide))).trans eh128_111_6
          clear eh128_111_6
          have eh132_111_7 : ri_at h132 111 7 = ((zx t n p2 : Nat) : Int) := (ri_ne wh132 (.inl (by decide))).trans eh128_111_7
          clear eh128_111_7
          have eh132_111_8 : ri_at h132 111 8 = zk t n p2 := (ri_ne wh132 (.inl (by decide))).trans eh128_111_8
          clear eh128_111_8
          have eh132_111_10 : ri_at h132 111 10 = ((za t n p2 : Nat) : Int) := (ri_ne wh132 (.inl (by decide))).trans eh128_111_10
          clear eh128_111_10
          have eh132_111_11 : ri_at h132 111 11 = w := (ri_ne wh132 (.inl (by decide))).trans eh128_111_11
          clear eh128_111_11
          have eh132_111_17 : ri_at h132 111 17 = ri_at h0 111 17 := (ri_ne wh132 (.inl (by decide))).trans eh128_111_17
          clear eh128_111_17
          have Zh132 := zR_wr wh132 Zh128 (.inl (by decide))
          refine ex_al oq_X12_workLine_102 gL124_0 ?_
          refine ex_cv oq_X12_workLine_103 (by decide) Th132 (k := 111) (d := 12) (as := []) (stk := []) rfl rfl rfl rfl rfl rfl ⟨rfl, rfl⟩ (R := fun o => ∃ hb : cv_H, o = (none, hb) ∧ cw_T G hb ∧ cw_Fr cw_Ds cw_sh kk_X12_token.2.2.2.2.2.1 h132 hb ∧ zR t n (zx t n p2) hb) (rt_tok (t := t) (n := n) (p := (zx t n p2)) (fun i hi => by rw [ht i hi, ← hA _ Fh132]) hn9 (fun i hi => by rw [hB _ Fh132]; exact hwr i hi) Th132 (zx_le (by omega)) (by omega) (by omega) (fun hb b1 b2 b3 => ⟨hb, rfl, b1, b2, b3⟩)) (fun o ho => ?_)
          obtain ⟨h133, rfl, Th133, Ch133, Zh133⟩ := ho
          show cw_X _ _ _ _ _ [] h133
          have Fh133 : cw_Fr cw_Ds cw_sh mk_wo h0 h133 := cw_Fr_tr Fh132 (cw_Fr_mono (by decide +kernel) Ch133)
          have eh133_111_4 : ri_at h133 111 4 = ri_at h113 111 4 := (ri_frf Ch133 (d := 12) rfl rfl (by decide +kernel)).trans eh132_111_4
          clear eh132_111_4
          have eh133_111_5 : ri_at h133 111 5 = ri_at h113 111 5 := (ri_frf Ch133 (d := 12) rfl rfl (by decide +kernel)).trans eh132_111_5
          clear eh132_111_5
          have eh133_111_11 : ri_at h133 111 11 = w := (ri_frf Ch133 (d := 12) rfl rfl (by decide +kernel)).trans eh132_111_11
          clear eh132_111_11
          have eh133_111_17 : ri_at h133 111 17 = ri_at h0 111 17 := (ri_frf Ch133 (d := 12) rfl rfl (by decide +kernel)).trans eh132_111_17
          clear eh132_111_17
          obtain ⟨yah133, ybh133, ych133, ydh133, -⟩ := id Zh133
          have zlh133 := zx_le (t := t) (n := n) (p := (zx t n p2)) (by omega)
          clear eh132_111_6 eh132_111_10 eh132_111_7 eh132_111_8
          refine ex_il oq_X12_workLine_106 gL124_2 ?_
          refine ex_ic oq_X12_workLine_107 (m := 1) (by decide) (fun x134 hx134 => ?_)
          refine ex_if oq_X12_workLine_108 (t := 137) rfl rfl (fun (c135 : x123.toInt ≤ x134.toInt) => ?_) (fun (c135 : ¬ (x123.toInt ≤ x134.toInt)) => ?_)
          · refine ex_al oq_X12_workLine_137 gL124_0 ?_
            refine ex_dup oq_X12_workLine_138 rfl ?_
            obtain ⟨x136, ax136, rx136, lx136, ux136⟩ := fi_worksRead Th133
            refine ex_gf oq_X12_workLine_139 Th133 (k := 111) (d := 12) rfl rfl ax136 ?_
            have rx136 := (rx136.symm.trans eh133_111_17 : x136.toInt = ri_at h0 111 17)
            refine ex_ic oq_X12_workLine_142 (m := 1) (by decide) (fun x137 hx137 => ?_)
            refine ex_add oq_X12_workLine_143 (by omega) (fun x138 hx138 => ?_)
            refine ex_pfi oq_X12_workLine_144 Th133 (k := 111) (d := 12) rfl rfl rfl (by omega) (by omega) (fun h139 Th139 wh139 => ?_)
            have Fh139 : cw_Fr cw_Ds cw_sh mk_wo h0 h139 := cw_Fr_tr Fh133 (cw_Fr_wrf wh139 (k := 111) (d := 12) rfl rfl (by decide +kernel))
            have eh139_111_4 : ri_at h139 111 4 = ri_at h113 111 4 := (ri_ne wh139 (by decide)).trans eh133_111_4
            clear eh133_111_4
            have eh139_111_5 : ri_at h139 111 5 = ri_at h113 111 5 := (ri_ne wh139 (by decide)).trans eh133_111_5
            clear eh133_111_5
            have eh139_111_6 : ri_at h139 111 6 = (n : Int) := (ri_ne wh139 (by decide)).trans yah133
            have eh139_111_7 : ri_at h139 111 7 = ((zx t n (zx t n p2) : Nat) : Int) := (ri_ne wh139 (by decide)).trans ych133
            have eh139_111_8 : ri_at h139 111 8 = zk t n (zx t n p2) := (ri_ne wh139 (by decide)).trans ydh133
            have eh139_111_10 : ri_at h139 111 10 = ((za t n (zx t n p2) : Nat) : Int) := (ri_ne wh139 (by decide)).trans ybh133
            have eh139_111_11 : ri_at h139 111 11 = w := (ri_ne wh139 (by decide)).trans eh133_111_11
            clear eh133_111_11
            have eh139_111_17 : ri_at h139 111 17 = x138.toInt := ri_self wh139
            have Zh139 := zR_wr wh139 Zh133 (.inr (by decide))
            refine ex_ic oq_X12_workLine_147 (m := 1) (by decide) (fun x140 hx140 => ?_)
            exact ex_retb oq_X12_workLine_148 rfl (by omega) (by omega) (hQ x140 h139 Th139 Fh139 ((((ri_ne wh139 (.inl (by decide))).trans ((ri_frq Ch133 (k := 122) (d := 61) rfl rfl (by decide) (by decide +kernel)).trans ((ri_ne wh132 (.inr (by omega))).trans ((ri_ne wh128 (.inr (by omega))).trans (ri_self wh122)))))).trans (show x121.toInt = w from by omega)) ((((ri_ne wh139 (.inl (by decide))).trans ((ri_frq Ch133 (k := 122) (d := 61) rfl rfl (by decide) (by decide +kernel)).trans ((ri_ne wh132 (.inr (by omega))).trans (ri_self wh128))))).trans (show x123.toInt = (zwk (zk t n p2) (zw t n p2)) from by omega)) ((((ri_ne wh139 (.inl (by decide))).trans ((ri_frq Ch133 (k := 122) (d := 61) rfl rfl (by decide) (by decide +kernel)).trans (ri_self wh132)))).trans (show x131.toInt = 0 from by omega)) (fun j hj => ((ri_ne wh139 (.inl (by decide))).trans ((ri_frq Ch133 (k := 122) (d := 61) rfl rfl (by decide) (by decide +kernel)).trans ((ri_ne wh132 (.inr (by omega))).trans ((ri_ne wh128 (.inr (by omega))).trans ((ri_ne wh122 (.inr (by omega))).trans ((ri_frq Ch113 (k := 122) (d := 61) rfl rfl (by decide) (by decide +kernel)).trans ((ri_frq Ch108 (k := 122) (d := 61) rfl rfl (by decide) (by decide +kernel)).trans (ri_frq Ch104 (k := 122) (d := 61) rfl rfl (by decide) (by decide +kernel)))))))))))
          · exfalso; omega
        · exfalso; omega
      · exfalso; omega
  · exfalso; omega
end TZ
