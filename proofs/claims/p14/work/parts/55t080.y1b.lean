section TZ
variable {G : Int} {X : cv_X} {Q : cv_O → Prop} {t : Nat → Int}
set_option maxHeartbeats 8000000 in
theorem rt_causeLineK {h0 : cv_H} {n p : Nat} (ht : ∀ i, i < n → t i = ri_at h0 112 i) (hn9 : n ≤ 900) (hT : cw_T G h0) (hwr : ∀ i, i < 177 → ri_at h0 113 i = pp_words.getD i 0) (hpn : p ≤ n) (hz : zR t n p h0) {l : List Int} (hc : ri_at h0 111 18 = l.length) (hlm : l.length ≤ 6) (hl : ∀ k, k < l.length → ri_at h0 123 (6 + k) = l.getD k 0) (hQ : ∀ (x : Int32) h', cw_T G h' → cw_Fr cw_Ds cw_sh mk_ca h0 h' → zFK h0 h' → zRe t n h0 h' x (zcl t n l p) (fun v => (∀ k, k < l.length → ri_at h' 123 (6 + k) = l.getD k 0) ∧ ri_at h' 123 (6 + l.length) = v ∧ ri_at h' 111 18 = l.length + 1) → Q (some (cv_i x), h')) : cw_X X 186 Q 0 (cv_ent 0 [cv_r 111]) [] h0 := by
  have Fh0 : cw_Fr cw_Ds cw_sh mk_ca h0 h0 := cw_Fr_refl
  have Kh0 : zFK h0 h0 := zFK_0
  have zxl := zx_le (t := t) hpn
  obtain ⟨z1, z2, z3, z4, z5⟩ := id hz
  replace z5 := zhd_i z5
  have hA : ∀ h, cw_Fr cw_Ds cw_sh mk_ca h0 h → ∀ i, ri_at h 112 i = ri_at h0 112 i := fun h F i => ri_frr F (k := 112) (d := 51) rfl rfl (by decide +kernel)
  have hB : ∀ h, cw_Fr cw_Ds cw_sh mk_ca h0 h → ∀ i, ri_at h 113 i = ri_at h0 113 i := fun h F i => ri_frr F (k := 113) (d := 52) rfl rfl (by decide +kernel)
  refine ex_al oq_X12_causeLine_0 rfl ?_
  obtain ⟨x101, ax101, rx101, lx101, ux101⟩ := fi_causesRead hT
  refine ex_gf oq_X12_causeLine_1 hT (k := 111) (d := 12) rfl rfl ax101 ?_
  refine ex_bi oq_X12_causeLine_4 (m := 6) (by decide) (fun x102 hx102 => ?_)
  refine ex_if oq_X12_causeLine_6 (t := 15) rfl rfl (fun (c103 : ¬ x101.toInt = x102.toInt) => ?_) (fun (c103 : ¬ (¬ x101.toInt = x102.toInt)) => ?_)
  · refine ex_al oq_X12_causeLine_15 rfl ?_
    refine ex_cv oq_X12_causeLine_16 (by decide) hT (k := 111) (d := 12) (as := []) (stk := []) rfl rfl rfl rfl rfl rfl ⟨rfl, rfl⟩ (R := fun o => ∃ hb : cv_H, o = (none, hb) ∧ cw_T G hb ∧ cw_Fr cw_Ds cw_sh kk_X12_token.2.2.2.2.2.1 h0 hb ∧ zR t n (zx t n p) hb) (rt_tok (t := t) (n := n) (p := (zx t n p)) (fun i hi => by rw [ht i hi, ← hA _ Fh0]) hn9 (fun i hi => by rw [hB _ Fh0]; exact hwr i hi) hT (zx_le (by omega)) (by omega) (by omega) (fun hb b1 b2 b3 => ⟨hb, rfl, b1, b2, b3⟩)) (fun o ho => ?_)
    obtain ⟨h104, rfl, Th104, Ch104, Zh104⟩ := ho
    show cw_X _ _ _ _ _ [] h104
    have Fh104 : cw_Fr cw_Ds cw_sh mk_ca h0 h104 := cw_Fr_tr Fh0 (cw_Fr_mono (by decide +kernel) Ch104)
    have Kh104 := zFK_fr Ch104 (by decide +kernel) Kh0
    have eh104_111_4 : ri_at h104 111 4 = ri_at h0 111 4 := ri_frf Ch104 (d := 12) rfl rfl (by decide +kernel)
    have eh104_111_5 : ri_at h104 111 5 = ri_at h0 111 5 := ri_frf Ch104 (d := 12) rfl rfl (by decide +kernel)
    have eh104_111_11 : ri_at h104 111 11 = ri_at h0 111 11 := ri_frf Ch104 (d := 12) rfl rfl (by decide +kernel)
    have eh104_111_18 : ri_at h104 111 18 = ri_at h0 111 18 := ri_frf Ch104 (d := 12) rfl rfl (by decide +kernel)
    obtain ⟨yah104, ybh104, ych104, ydh104, -⟩ := id Zh104
    have zlh104 := zx_le (t := t) (n := n) (p := (zx t n p)) (by omega)
    refine ex_al oq_X12_causeLine_19 rfl ?_
    refine ex_al oq_X12_causeLine_20 rfl ?_
    refine ex_gf oq_X12_causeLine_21 Th104 (k := 111) (d := 12) rfl rfl (fr_causeName Th104) ?_
    refine ex_bi oq_X12_causeLine_24 (m := 6) (by decide) (fun x105 hx105 => ?_)
    refine ex_al oq_X12_causeLine_26 rfl ?_
    obtain ⟨x106, ax106, rx106, lx106, ux106⟩ := fi_causesRead Th104
    refine ex_gf oq_X12_causeLine_27 Th104 (k := 111) (d := 12) rfl rfl ax106 ?_
    have rx106 := (rx106.symm.trans eh104_111_18 : x106.toInt = ri_at h0 111 18)
    have hlh104 : ∀ k, k < l.length → ri_at h104 123 (6 + k) = l.getD k 0 := fun k hk => by rw [show ri_at h104 123 (6 + k) = ri_at h0 123 (6 + k) from (ri_frr Ch104 (k := 123) (d := 62) rfl rfl (by decide +kernel))]; exact hl k hk
    refine ex_cv oq_X12_causeLine_30 (by decide) Th104 (k := 111) (d := 12) (as := [cv_r 123, cv_i x105, cv_i x106]) (stk := []) rfl rfl rfl rfl rfl rfl ⟨rfl, rfl⟩ (R := fun o => ∃ (x : Int32) (hb : cv_H), o = (some (cv_i x), hb) ∧ cw_T G hb ∧ cw_Fr cw_Ds cw_sh kk_X12_newName_2.2.2.2.2.2.1 h104 hb ∧ zFK h104 hb ∧ zRe t n h104 hb x (zm t n l (zx t n p)) (fun v => (∀ k, k < l.length → ri_at hb 123 (6 + k) = l.getD k 0) ∧ ri_at hb 123 (6 + l.length) = v)) (rt_newNameCK (t := t) (n := n) (p := (zx t n p)) (l := l) (fun i hi => by rw [ht i hi, ← hA _ Fh104]) hn9 Th104 (fun i hi => by rw [hB _ Fh104]; exact hwr i hi) (by omega) Zh104 (by omega) (by omega) (by omega) hlh104 (fun x hb b1 b2 bk b3 => ⟨x, hb, rfl, b1, b2, bk, b3⟩)) (fun o ho => ?_)
    obtain ⟨x107, h108, rfl, Th108, Ch108, kh108, dx107⟩ := ho
    show cw_X _ _ _ _ _ [cv_i x107] h108
    have Fh108 : cw_Fr cw_Ds cw_sh mk_ca h0 h108 := cw_Fr_tr Fh104 (cw_Fr_mono (by decide +kernel) Ch108)
    have Kh108 := zFK_tr Kh104 kh108
    have eh108_111_18 : ri_at h108 111 18 = ri_at h0 111 18 := (ri_frf Ch108 (d := 12) rfl rfl (by decide +kernel)).trans eh104_111_18
    clear eh104_111_18
    refine ex_if0 oq_X12_causeLine_33 (t := 46) rfl rfl (fun (c109 : x107.toInt = 0) => ?_) (fun (c109 : ¬ (x107.toInt = 0)) => ?_)
    · obtain ⟨fc1, fa1, e1_1, ax107, e1_3, e1_4, e1_5⟩ := zRe_no dx107 c109
      clear dx107
      refine ex_ic oq_X12_causeLine_46 (m := 0) (by decide) (fun x110 hx110 => ?_)
      exact ex_retb oq_X12_causeLine_47 rfl (by omega) (by omega) (hQ x110 h108 Th108 Fh108 Kh108 (.inr ⟨_, _, (by unfold zcl; rw [if_neg (by omega), zb2_l e1_1]), by omega, by omega, by omega, by omega⟩))
    · replace c109 : ¬ x107.toInt = 0 := by omega
      obtain ⟨v2, q2, e2_1, e2_2, ax107, Zh108, e2_5, e2_6, e2_7⟩ := zRe_yes dx107 c109
      clear dx107 c109
      replace e2_5 := e2_5.trans eh104_111_4
      clear eh104_111_4
      replace e2_6 := e2_6.trans eh104_111_5
      clear eh104_111_5
      obtain ⟨yah108, ybh108, ych108, ydh108, -⟩ := id Zh108
      have zlh108 := zx_le (t := t) (n := n) (p := q2) (by omega)
      clear yah104 ybh104 ych104 ydh104
      refine ex_al oq_X12_causeLine_36 rfl ?_
      refine ex_ic oq_X12_causeLine_37 (m := 1) (by decide) (fun x111 hx111 => ?_)
      refine ex_bi oq_X12_causeLine_38 (m := 99) (by decide) (fun x112 hx112 => ?_)
      refine ex_cv oq_X12_causeLine_40 (by decide) Th108 (k := 111) (d := 12) (as := [cv_i x111, cv_i x112]) (stk := []) rfl rfl rfl rfl rfl rfl ⟨rfl, rfl⟩ (R := fun o => ∃ (x : Int32) (hb : cv_H), o = (some (cv_i x), hb) ∧ cw_T G hb ∧ cw_Fr cw_Ds cw_sh kk_X12_number.2.2.2.2.2.1 h108 hb ∧ zRe t n h108 hb x (zn t n x111.toInt x112.toInt q2) (fun v => ri_at hb 111 11 = v)) (rt_number (t := t) (n := n) (p := q2) (fun i hi => by rw [ht i hi, ← hA _ Fh108]) hn9 Th108 (fun i hi => by rw [hB _ Fh108]; exact hwr i hi) (by omega) Zh108 x111 x112 (fun x hb b1 b2 b3 => ⟨x, hb, rfl, b1, b2, b3⟩)) (fun o ho => ?_)
      obtain ⟨x113, h114, rfl, Th114, Ch114, dx113⟩ := ho
      show cw_X _ _ _ _ _ [cv_i x113] h114
      have Fh114 : cw_Fr cw_Ds cw_sh mk_ca h0 h114 := cw_Fr_tr Fh108 (cw_Fr_mono (by decide +kernel) Ch114)
      have Kh114 := zFK_fr Ch114 (by decide +kernel) Kh108
      rw [hx111] at dx113
      rw [hx112] at dx113
      have eh114_111_18 : ri_at h114 111 18 = ri_at h0 111 18 := (ri_frf Ch114 (d := 12) rfl rfl (by decide +kernel)).trans eh108_111_18
      clear eh108_111_18
      refine ex_if0 oq_X12_causeLine_43 (t := 48) rfl rfl (fun (c115 : ¬ x113.toInt = 0) => ?_) (fun (c115 : ¬ (¬ x113.toInt = 0)) => ?_)
      · obtain ⟨v3, q3, e3_1, e3_2, ax113, Zh114, e3_5, e3_6, e3_7⟩ := zRe_yes dx113 c115
        clear dx113 c115
        replace e3_5 := e3_5.trans e2_5
        clear e2_5
        replace e3_6 := e3_6.trans e2_6
        clear e2_6
        obtain ⟨yah114, ybh114, ych114, ydh114, -⟩ := id Zh114
        have zlh114 := zx_le (t := t) (n := n) (p := q3) (by omega)
        clear yah108 ybh108 ych108 ydh108
        have e3_8 := zn_rg e3_1
        refine ex_bi oq_X12_causeLine_48 (m := 18) (by decide) (fun x116 hx116 => ?_)
        refine ex_ic oq_X12_causeLine_50 (m := 3) (by decide) (fun x117 hx117 => ?_)
        refine ex_al oq_X12_causeLine_51 rfl ?_
        obtain ⟨x118, ax118, rx118, lx118, ux118⟩ := fi_causesRead Th114
        refine ex_gf oq_X12_causeLine_52 Th114 (k := 111) (d := 12) rfl rfl ax118 ?_
        have rx118 := (rx118.symm.trans eh114_111_18 : x118.toInt = ri_at h0 111 18)
        refine ex_mul oq_X12_causeLine_55 (m := 3 * x118.toInt) (by rw [hx117]) (by omega) (fun x119 hx119 => ?_)
        refine ex_add oq_X12_causeLine_56 (by omega) (fun x120 hx120 => ?_)
        refine ex_isA oq_X12_causeLine_57 (fun L121 gL121_1 kL121 => ?_)
        have gL121_0 : cv_get L121 0 = some (cv_r 111) := kL121 0 _ (by decide) (fun _ => rfl) rfl
        refine ex_al oq_X12_causeLine_58 gL121_0 ?_
        refine ex_gf oq_X12_causeLine_59 Th114 (k := 111) (d := 12) rfl rfl (fr_causeHas Th114) ?_
        refine ex_il oq_X12_causeLine_62 gL121_1 ?_
        refine ex_al oq_X12_causeLine_63 gL121_0 ?_
        obtain ⟨x122, ax122, rx122, lx122, ux122⟩ := fi_got Th114
        refine ex_gf oq_X12_causeLine_64 Th114 (k := 111) (d := 12) rfl rfl ax122 ?_
        have rx122 := (rx122.symm.trans e3_7 : x122.toInt = v3)
        refine ex_iw oq_X12_causeLine_67 Th114 (k := 124) (d := 63) (j := 18 + 3 * l.length) rfl rfl (by omega) (by omega) (fun r hr => ca_get hr _ (cw_i32 _) (fun q => by omega)) (fun h123 Th123 wh123 => ?_)
        have Fh123 : cw_Fr cw_Ds cw_sh mk_ca h0 h123 := cw_Fr_tr Fh114 (cw_Fr_wrr wh123 (k := 124) (d := 63) rfl rfl (by decide +kernel))
        have Kh123 := zFK_wr (k := 124) wh123 ((by show 18 ≤ _; omega)) Kh114
        have eh123_111_4 : ri_at h123 111 4 = ri_at h0 111 4 := (ri_ne wh123 (.inl (by decide))).trans e3_5
        have eh123_111_5 : ri_at h123 111 5 = ri_at h0 111 5 := (ri_ne wh123 (.inl (by decide))).trans e3_6
        have eh123_111_6 : ri_at h123 111 6 = (n : Int) := (ri_ne wh123 (.inl (by decide))).trans yah114
        have eh123_111_7 : ri_at h123 111 7 = ((zx t n q3 : Nat) : Int) := (ri_ne wh123 (.inl (by decide))).trans ych114
        have eh123_111_8 : ri_at h123 111 8 = zk t n q3 := (ri_ne wh123 (.inl (by decide))).trans ydh114
        have eh123_111_10 : ri_at h123 111 10 = ((za t n q3 : Nat) : Int) := (ri_ne wh123 (.inl (by decide))).trans ybh114
        have eh123_111_11 : ri_at h123 111 11 = v3 := (ri_ne wh123 (.inl (by decide))).trans e3_7
        have eh123_111_18 : ri_at h123 111 18 = ri_at h0 111 18 := (ri_ne wh123 (.inl (by decide))).trans eh114_111_18
        clear eh114_111_18
        have Zh123 := zR_wr wh123 Zh114 (.inl (by decide))
        refine ex_al oq_X12_causeLine_68 gL121_0 ?_
        obtain ⟨x124, ax124, rx124, lx124, ux124⟩ := fi_kind Th123
        refine ex_gf oq_X12_causeLine_69 Th123 (k := 111) (d := 12) rfl rfl ax124 ?_
        have rx124 := (rx124.symm.trans eh123_111_8 : x124.toInt = zk t n q3)
        refine ex_ic oq_X12_causeLine_72 (m := 1) (by decide) (fun x125 hx125 => ?_)
        refine ex_if oq_X12_causeLine_73 (t := 89) rfl rfl (fun (c126 : ¬ x124.toInt = x125.toInt) => ?_) (fun (c126 : ¬ (¬ x124.toInt = x125.toInt)) => ?_)
        · refine ex_al oq_X12_causeLine_89 gL121_0 ?_
          refine ex_ic oq_X12_causeLine_90 (m := 1) (by decide) (fun x127 hx127 => ?_)
          refine ex_cv oq_X12_causeLine_91 (by decide) Th123 (k := 111) (d := 12) (as := [cv_i x127]) (stk := []) rfl rfl rfl rfl rfl rfl ⟨rfl, rfl⟩ (R := fun o => ∃ (x : Int32) (hb : cv_H), o = (some (cv_i x), hb) ∧ cw_T G hb ∧ cw_Fr cw_Ds cw_sh kk_X12_wrong.2.2.2.2.2.1 h123 hb ∧ x.toInt = 0 ∧ ri_at hb 111 4 = x127.toInt ∧ ri_at hb 111 5 = ri_at h123 111 10) (rt_wrong Th123 x127 (fun x hb b1 b2 b3 b4 b5 => ⟨x, hb, rfl, b1, b2, b3, b4, b5⟩)) (fun o ho => ?_)
          obtain ⟨x128, h129, rfl, Th129, Ch129, zh129, fh129, ph129⟩ := ho
          show cw_X _ _ _ _ _ [cv_i x128] h129
          have Fh129 : cw_Fr cw_Ds cw_sh mk_ca h0 h129 := cw_Fr_tr Fh123 (cw_Fr_mono (by decide +kernel) Ch129)
          have Kh129 := zFK_fr Ch129 (by decide +kernel) Kh123
          exact ex_retb oq_X12_causeLine_94 rfl (by omega) (by omega) (hQ x128 h129 Th129 Fh129 Kh129 (.inr ⟨_, _, (by unfold zcl; rw [if_neg (by omega), zb2_r e2_1, zb2_r e3_1, if_neg (by omega)]), by omega, by omega, by omega, by decide⟩))
        · refine ex_al oq_X12_causeLine_76 gL121_0 ?_
          obtain ⟨x130, ax130, rx130, lx130, ux130⟩ := fi_which Th123
          refine ex_gf oq_X12_causeLine_77 Th123 (k := 111) (d := 12) rfl rfl ax130 ?_
          have wx130 : x130.toInt = zw t n q3 := rx130.symm.trans (Zh123.2.2.2.2 (by omega) (by omega))
          refine ex_ic oq_X12_causeLine_80 (m := 5) (by decide) (fun x131 hx131 => ?_)
          refine ex_bi oq_X12_causeLine_81 (m := 7) (by decide) (fun x132 hx132 => ?_)
          refine ex_cs oq_X12_causeLine_83 (by decide) (as := [cv_i x130, cv_i x131, cv_i x132]) (stk := []) rfl rfl rfl ⟨rfl, rfl⟩ (R := fun o => ∃ x : Int32, o = (some (cv_i x), h123) ∧ (x.toInt = 1 ∧ x131.toInt ≤ x130.toInt ∧ x130.toInt ≤ x132.toInt ∨ x.toInt = 0 ∧ (x130.toInt < x131.toInt ∨ x132.toInt < x130.toInt))) (rt_isIn x130 x131 x132 (fun x q => ⟨x, rfl, q⟩)) (fun o ho => ?_)
          obtain ⟨x133, rfl, dx133⟩ := ho
          show cw_X _ _ _ _ _ [cv_i x133] h123
          refine ex_if0 oq_X12_causeLine_86 (t := 95) rfl rfl (fun (c134 : ¬ x133.toInt = 0) => ?_) (fun (c134 : ¬ (¬ x133.toInt = 0)) => ?_)
          · obtain ⟨_, dx133, dx133b⟩ := isin_y dx133 c134
            refine ex_al oq_X12_causeLine_95 gL121_0 ?_
            refine ex_gf oq_X12_causeLine_96 Th123 (k := 111) (d := 12) rfl rfl (fr_causeHas Th123) ?_
            refine ex_il oq_X12_causeLine_99 gL121_1 ?_
            refine ex_ic oq_X12_causeLine_100 (m := 1) (by decide) (fun x135 hx135 => ?_)
            refine ex_add oq_X12_causeLine_101 (by omega) (fun x136 hx136 => ?_)
            refine ex_al oq_X12_causeLine_102 gL121_0 ?_
            obtain ⟨x137, ax137, rx137, lx137, ux137⟩ := fi_which Th123
            refine ex_gf oq_X12_causeLine_103 Th123 (k := 111) (d := 12) rfl rfl ax137 ?_
            have wx137 : x137.toInt = zw t n q3 := rx137.symm.trans (Zh123.2.2.2.2 (by omega) (by omega))
            refine ex_ic oq_X12_causeLine_106 (m := 5) (by decide) (fun x138 hx138 => ?_)
            refine ex_sub oq_X12_causeLine_107 (by omega) (fun x139 hx139 => ?_)
            refine ex_iw oq_X12_causeLine_108 Th123 (k := 124) (d := 63) (j := 18 + 3 * l.length + 1) rfl rfl (by omega) (by omega) (fun r hr => ca_get hr _ (cw_i32 _) (fun q => by omega)) (fun h140 Th140 wh140 => ?_)
            have Fh140 : cw_Fr cw_Ds cw_sh mk_ca h0 h140 := cw_Fr_tr Fh123 (cw_Fr_wrr wh140 (k := 124) (d := 63) rfl rfl (by decide +kernel))
            have Kh140 := zFK_wr (k := 124) wh140 ((by show 18 ≤ _; omega)) Kh123
            have eh140_111_4 : ri_at h140 111 4 = ri_at h0 111 4 := (ri_ne wh140 (.inl (by decide))).trans eh123_111_4
            clear eh123_111_4
            have eh140_111_5 : ri_at h140 111 5 = ri_at h0 111 5 := (ri_ne wh140 (.inl (by decide))).trans eh123_111_5
            clear eh123_111_5
            have eh140_111_6 : ri_at h140 111 6 = (n : Int) := (ri_ne wh140 (.inl (by decide))).trans eh123_111_6
            clear eh123_111_6
            have eh140_111_7 : ri_at h140 111 7 = ((zx t n q3 : Nat) : Int) := (ri_ne wh140 (.inl (by decide))).trans eh123_111_7
            clear eh123_111_7
            have eh140_111_8 : ri_at h140 111 8 = zk t n q3 := (ri_ne wh140 (.inl (by decide))).trans eh123_111_8
            clear eh123_111_8
            have eh140_111_10 : ri_at h140 111 10 = ((za t n q3 : Nat) : Int) := (ri_ne wh140 (.inl (by decide))).trans eh123_111_10
            clear eh123_111_10
            have eh140_111_11 : ri_at h140 111 11 = v3 := (ri_ne wh140 (.inl (by decide))).trans eh123_111_11
            clear eh123_111_11
            have eh140_111_18 : ri_at h140 111 18 = ri_at h0 111 18 := (ri_ne wh140 (.inl (by decide))).trans eh123_111_18
            clear eh123_111_18
            have Zh140 := zR_wr wh140 Zh123 (.inl (by decide))
            refine ex_al oq_X12_causeLine_109 gL121_0 ?_
            refine ex_cv oq_X12_causeLine_110 (by decide) Th140 (k := 111) (d := 12) (as := []) (stk := []) rfl rfl rfl rfl rfl rfl ⟨rfl, rfl⟩ (R := fun o => ∃ hb : cv_H, o = (none, hb) ∧ cw_T G hb ∧ cw_Fr cw_Ds cw_sh kk_X12_token.2.2.2.2.2.1 h140 hb ∧ zR t n (zx t n q3) hb) (rt_tok (t := t) (n := n) (p := (zx t n q3)) (fun i hi => by rw [ht i hi, ← hA _ Fh140]) hn9 (fun i hi => by rw [hB _ Fh140]; exact hwr i hi) Th140 (zx_le (by omega)) (by omega) (by omega) (fun hb b1 b2 b3 => ⟨hb, rfl, b1, b2, b3⟩)) (fun o ho => ?_)
            obtain ⟨h141, rfl, Th141, Ch141, Zh141⟩ := ho
            show cw_X _ _ _ _ _ [] h141
            have Fh141 : cw_Fr cw_Ds cw_sh mk_ca h0 h141 := cw_Fr_tr Fh140 (cw_Fr_mono (by decide +kernel) Ch141)
            have Kh141 := zFK_fr Ch141 (by decide +kernel) Kh140
            have eh141_111_4 : ri_at h141 111 4 = ri_at h0 111 4 := (ri_frf Ch141 (d := 12) rfl rfl (by decide +kernel)).trans eh140_111_4
            clear eh140_111_4
            have eh141_111_5 : ri_at h141 111 5 = ri_at h0 111 5 := (ri_frf Ch141 (d := 12) rfl rfl (by decide +kernel)).trans eh140_111_5
            clear eh140_111_5
            have eh141_111_11 : ri_at h141 111 11 = v3 := (ri_frf Ch141 (d := 12) rfl rfl (by decide +kernel)).trans eh140_111_11
            clear eh140_111_11
            have eh141_111_18 : ri_at h141 111 18 = ri_at h0 111 18 := (ri_frf Ch141 (d := 12) rfl rfl (by decide +kernel)).trans eh140_111_18
            clear eh140_111_18
            obtain ⟨yah141, ybh141, ych141, ydh141, -⟩ := id Zh141
            have zlh141 := zx_le (t := t) (n := n) (p := (zx t n q3)) (by omega)
            clear eh140_111_6 eh140_111_10 eh140_111_7 eh140_111_8
            refine ex_al oq_X12_causeLine_113 gL121_0 ?_
            refine ex_ic oq_X12_causeLine_114 (m := 1) (by decide) (fun x142 hx142 => ?_)
            refine ex_si oq_X12_causeLine_115 (m := 999) (by decide) (fun x143 hx143 => ?_)
            refine ex_cv oq_X12_causeLine_118 (by decide) Th141 (k := 111) (d := 12) (as := [cv_i x142, cv_i x143]) (stk := []) rfl rfl rfl rfl rfl rfl ⟨rfl, rfl⟩ (R := fun o => ∃ (x : Int32) (hb : cv_H), o = (some (cv_i x), hb) ∧ cw_T G hb ∧ cw_Fr cw_Ds cw_sh kk_X12_number.2.2.2.2.2.1 h141 hb ∧ zRe t n h141 hb x (zn t n x142.toInt x143.toInt (zx t n q3)) (fun v => ri_at hb 111 11 = v)) (rt_number (t := t) (n := n) (p := (zx t n q3)) (fun i hi => by rw [ht i hi, ← hA _ Fh141]) hn9 Th141 (fun i hi => by rw [hB _ Fh141]; exact hwr i hi) (by omega) Zh141 x142 x143 (fun x hb b1 b2 b3 => ⟨x, hb, rfl, b1, b2, b3⟩)) (fun o ho => ?_)
            obtain ⟨x144, h145, rfl, Th145, Ch145, dx144⟩ := ho
            show cw_X _ _ _ _ _ [cv_i x144] h145
            have Fh145 : cw_Fr cw_Ds cw_sh mk_ca h0 h145 := cw_Fr_tr Fh141 (cw_Fr_mono (by decide +kernel) Ch145)
            have Kh145 := zFK_fr Ch145 (by decide +kernel) Kh141
            rw [hx142] at dx144
            rw [hx143] at dx144
            have eh145_111_18 : ri_at h145 111 18 = ri_at h0 111 18 := (ri_frf Ch145 (d := 12) rfl rfl (by decide +kernel)).trans eh141_111_18
            clear eh141_111_18
            refine ex_if0 oq_X12_causeLine_121 (t := 126) rfl rfl (fun (c146 : ¬ x144.toInt = 0) => ?_) (fun (c146 : ¬ (¬ x144.toInt = 0)) => ?_)
            · obtain ⟨v4, q4, e4_1, e4_2, ax144, Zh145, e4_5, e4_6, e4_7⟩ := zRe_yes dx144 c146
              clear dx144 c146
              replace e4_5 := e4_5.trans eh141_111_4
              clear eh141_111_4
              replace e4_6 := e4_6.trans eh141_111_5
              clear eh141_111_5
              obtain ⟨yah145, ybh145, ych145, ydh145, -⟩ := id Zh145
              have zlh145 := zx_le (t := t) (n := n) (p := q4) (by omega)
              clear yah141 ybh141 ych141 ydh141
              have e4_8 := zn_rg e4_1
              refine ex_al oq_X12_causeLine_126 gL121_0 ?_
              refine ex_gf oq_X12_causeLine_127 Th145 (k := 111) (d := 12) rfl rfl (fr_causeHas Th145) ?_
              refine ex_il oq_X12_causeLine_130 gL121_1 ?_
              refine ex_ic oq_X12_causeLine_131 (m := 2) (by decide) (fun x147 hx147 => ?_)
              refine ex_add oq_X12_causeLine_132 (by omega) (fun x148 hx148 => ?_)
              refine ex_al oq_X12_causeLine_133 gL121_0 ?_
              obtain ⟨x149, ax149, rx149, lx149, ux149⟩ := fi_got Th145
              refine ex_gf oq_X12_causeLine_134 Th145 (k := 111) (d := 12) rfl rfl ax149 ?_
              have rx149 := (rx149.symm.trans e4_7 : x149.toInt = v4)
              refine ex_iw oq_X12_causeLine_137 Th145 (k := 124) (d := 63) (j := 18 + 3 * l.length + 2) rfl rfl (by omega) (by omega) (fun r hr => ca_get hr _ (cw_i32 _) (fun q => by omega)) (fun h150 Th150 wh150 => ?_)
              have Fh150 : cw_Fr cw_Ds cw_sh mk_ca h0 h150 := cw_Fr_tr Fh145 (cw_Fr_wrr wh150 (k := 124) (d := 63) rfl rfl (by decide +kernel))
              have Kh150 := zFK_wr (k := 124) wh150 ((by show 18 ≤ _; omega)) Kh145
              have eh150_111_4 : ri_at h150 111 4 = ri_at h0 111 4 := (ri_ne wh150 (.inl (by decide))).trans e4_5
              have eh150_111_5 : ri_at h150 111 5 = ri_at h0 111 5 := (ri_ne wh150 (.inl (by decide))).trans e4_6
              have eh150_111_6 : ri_at h150 111 6 = (n : Int) := (ri_ne wh150 (.inl (by decide))).trans yah145
              have eh150_111_7 : ri_at h150 111 7 = ((zx t n q4 : Nat) : Int) := (ri_ne wh150 (.inl (by decide))).trans ych145
              have eh150_111_8 : ri_at h150 111 8 = zk t n q4 := (ri_ne wh150 (.inl (by decide))).trans ydh145
              have eh150_111_10 : ri_at h150 111 10 = ((za t n q4 : Nat) : Int) := (ri_ne wh150 (.inl (by decide))).trans ybh145
              have eh150_111_11 : ri_at h150 111 11 = v4 := (ri_ne wh150 (.inl (by decide))).trans e4_7
              have eh150_111_18 : ri_at h150 111 18 = ri_at h0 111 18 := (ri_ne wh150 (.inl (by decide))).trans eh145_111_18
              clear eh145_111_18
              have Zh150 := zR_wr wh150 Zh145 (.inl (by decide))
              refine ex_al oq_X12_causeLine_138 gL121_0 ?_
              refine ex_dup oq_X12_causeLine_139 rfl ?_
              obtain ⟨x151, ax151, rx151, lx151, ux151⟩ := fi_causesRead Th150
              refine ex_gf oq_X12_causeLine_140 Th150 (k := 111) (d := 12) rfl rfl ax151 ?_
              have rx151 := (rx151.symm.trans eh150_111_18 : x151.toInt = ri_at h0 111 18)
              refine ex_ic oq_X12_causeLine_143 (m := 1) (by decide) (fun x152 hx152 => ?_)
              refine ex_add oq_X12_causeLine_144 (by omega) (fun x153 hx153 => ?_)
              refine ex_pfi oq_X12_causeLine_145 Th150 (k := 111) (d := 12) rfl rfl rfl (by omega) (by omega) (fun h154 Th154 wh154 => ?_)
              have Fh154 : cw_Fr cw_Ds cw_sh mk_ca h0 h154 := cw_Fr_tr Fh150 (cw_Fr_wrf wh154 (k := 111) (d := 12) rfl rfl (by decide +kernel))
              have Kh154 := zFK_wr (k := 111) wh154 (Nat.zero_le _) Kh150
              have eh154_111_4 : ri_at h154 111 4 = ri_at h0 111 4 := (ri_ne wh154 (by decide)).trans eh150_111_4
              clear eh150_111_4
              have eh154_111_5 : ri_at h154 111 5 = ri_at h0 111 5 := (ri_ne wh154 (by decide)).trans eh150_111_5
              clear eh150_111_5
              have eh154_111_6 : ri_at h154 111 6 = (n : Int) := (ri_ne wh154 (by decide)).trans eh150_111_6
              clear eh150_111_6
              have eh154_111_7 : ri_at h154 111 7 = ((zx t n q4 : Nat) : Int) := (ri_ne wh154 (by decide)).trans eh150_111_7
              clear eh150_111_7
              have eh154_111_8 : ri_at h154 111 8 = zk t n q4 := (ri_ne wh154 (by decide)).trans eh150_111_8
              clear eh150_111_8
              have eh154_111_10 : ri_at h154 111 10 = ((za t n q4 : Nat) : Int) := (ri_ne wh154 (by decide)).trans eh150_111_10
              clear eh150_111_10
              have eh154_111_11 : ri_at h154 111 11 = v4 := (ri_ne wh154 (by decide)).trans eh150_111_11
              clear eh150_111_11
              have eh154_111_18 : ri_at h154 111 18 = x153.toInt := ri_self wh154
              have Zh154 := zR_wr wh154 Zh150 (.inr (by decide))
              refine ex_ic oq_X12_causeLine_148 (m := 1) (by decide) (fun x155 hx155 => ?_)
              have hr : ∀ i, ri_at h154 123 i = ri_at h108 123 i := fun i => ((ri_ne wh154 (.inl (by decide))).trans ((ri_ne wh150 (.inl (by decide))).trans ((ri_frr Ch145 (k := 123) (d := 62) rfl rfl (by decide +kernel)).trans ((ri_frr Ch141 (k := 123) (d := 62) rfl rfl (by decide +kernel)).trans ((ri_ne wh140 (.inl (by decide))).trans ((ri_ne wh123 (.inl (by decide))).trans (ri_frr Ch114 (k := 123) (d := 62) rfl rfl (by decide +kernel))))))))
              exact ex_retb oq_X12_causeLine_149 rfl (by omega) (by omega) (hQ x155 h154 Th154 Fh154 Kh154 (.inl ⟨_, _, (by unfold zcl; rw [if_neg (by omega), zb2_r e2_1, zb2_r e3_1, if_pos (by omega), zb2_r e4_1]), by omega, by omega, Zh154, by omega, by omega, fun k hk => by rw [hr]; exact e2_7.1 k hk, by rw [hr]; exact e2_7.2, by omega⟩))
            · replace c146 : x144.toInt = 0 := by omega
              obtain ⟨fc5, fa5, e5_1, ax144, e5_3, e5_4, e5_5⟩ := zRe_no dx144 c146
              clear dx144
              refine ex_ic oq_X12_causeLine_124 (m := 0) (by decide) (fun x156 hx156 => ?_)
              exact ex_retb oq_X12_causeLine_125 rfl (by omega) (by omega) (hQ x156 h145 Th145 Fh145 Kh145 (.inr ⟨_, _, (by unfold zcl; rw [if_neg (by omega), zb2_r e2_1, zb2_r e3_1, if_pos (by omega), zb2_l e5_1]), by omega, by omega, by omega, by omega⟩))
          · replace c134 : x133.toInt = 0 := by omega
            replace dx133 := isin_n dx133 c134
            refine ex_al oq_X12_causeLine_89 gL121_0 ?_
            refine ex_ic oq_X12_causeLine_90 (m := 1) (by decide) (fun x157 hx157 => ?_)
            refine ex_cv oq_X12_causeLine_91 (by decide) Th123 (k := 111) (d := 12) (as := [cv_i x157]) (stk := []) rfl rfl rfl rfl rfl rfl ⟨rfl, rfl⟩ (R := fun o => ∃ (x : Int32) (hb : cv_H), o = (some (cv_i x), hb) ∧ cw_T G hb ∧ cw_Fr cw_Ds cw_sh kk_X12_wrong.2.2.2.2.2.1 h123 hb ∧ x.toInt = 0 ∧ ri_at hb 111 4 = x157.toInt ∧ ri_at hb 111 5 = ri_at h123 111 10) (rt_wrong Th123 x157 (fun x hb b1 b2 b3 b4 b5 => ⟨x, hb, rfl, b1, b2, b3, b4, b5⟩)) (fun o ho => ?_)
            obtain ⟨x158, h159, rfl, Th159, Ch159, zh159, fh159, ph159⟩ := ho
            show cw_X _ _ _ _ _ [cv_i x158] h159
            have Fh159 : cw_Fr cw_Ds cw_sh mk_ca h0 h159 := cw_Fr_tr Fh123 (cw_Fr_mono (by decide +kernel) Ch159)
            have Kh159 := zFK_fr Ch159 (by decide +kernel) Kh123
            exact ex_retb oq_X12_causeLine_94 rfl (by omega) (by omega) (hQ x158 h159 Th159 Fh159 Kh159 (.inr ⟨_, _, (by unfold zcl; rw [if_neg (by omega), zb2_r e2_1, zb2_r e3_1, if_neg (by omega)]), by omega, by omega, by omega, by decide⟩))
      · replace c115 : x113.toInt = 0 := by omega
        obtain ⟨fc6, fa6, e6_1, ax113, e6_3, e6_4, e6_5⟩ := zRe_no dx113 c115
        clear dx113
        refine ex_ic oq_X12_causeLine_46 (m := 0) (by decide) (fun x160 hx160 => ?_)
        exact ex_retb oq_X12_causeLine_47 rfl (by omega) (by omega) (hQ x160 h114 Th114 Fh114 Kh114 (.inr ⟨_, _, (by unfold zcl; rw [if_neg (by omega), zb2_r e2_1, zb2_l e6_1]), by omega, by omega, by omega, by omega⟩))
  · refine ex_al oq_X12_causeLine_9 rfl ?_
    refine ex_ic oq_X12_causeLine_10 (m := 2) (by decide) (fun x161 hx161 => ?_)
    refine ex_cv oq_X12_causeLine_11 (by decide) hT (k := 111) (d := 12) (as := [cv_i x161]) (stk := []) rfl rfl rfl rfl rfl rfl ⟨rfl, rfl⟩ (R := fun o => ∃ (x : Int32) (hb : cv_H), o = (some (cv_i x), hb) ∧ cw_T G hb ∧ cw_Fr cw_Ds cw_sh kk_X12_wrong.2.2.2.2.2.1 h0 hb ∧ x.toInt = 0 ∧ ri_at hb 111 4 = x161.toInt ∧ ri_at hb 111 5 = ri_at h0 111 10) (rt_wrong hT x161 (fun x hb b1 b2 b3 b4 b5 => ⟨x, hb, rfl, b1, b2, b3, b4, b5⟩)) (fun o ho => ?_)
    obtain ⟨x162, h163, rfl, Th163, Ch163, zh163, fh163, ph163⟩ := ho
    show cw_X _ _ _ _ _ [cv_i x162] h163
    have Fh163 : cw_Fr cw_Ds cw_sh mk_ca h0 h163 := cw_Fr_tr Fh0 (cw_Fr_mono (by decide +kernel) Ch163)
    have Kh163 := zFK_fr Ch163 (by decide +kernel) Kh0
    exact ex_retb oq_X12_causeLine_14 rfl (by omega) (by omega) (hQ x162 h163 Th163 Fh163 Kh163 (.inr ⟨_, _, (by unfold zcl; rw [if_pos (by omega)]), by omega, by omega, by omega, by decide⟩))
set_option maxHeartbeats 8000000 in
theorem rt_workLineK {h0 : cv_H} {n p : Nat} (ht : ∀ i, i < n → t i = ri_at h0 112 i) (hn9 : n ≤ 900) (hT : cw_T G h0) (hwr : ∀ i, i < 177 → ri_at h0 113 i = pp_words.getD i 0) (hpn : p ≤ n) (hz : zR t n p h0) {l : List Int} (hc : ri_at h0 111 17 = l.length) (hlm : l.length ≤ 6) (hl : ∀ k, k < l.length → ri_at h0 121 (6 + k) = l.getD k 0) (hQ : ∀ (x : Int32) h', cw_T G h' → cw_Fr cw_Ds cw_sh mk_wo h0 h' → zFK h0 h' → zRe t n h0 h' x (zwl t n l p) (fun v => (∀ k, k < l.length → ri_at h' 121 (6 + k) = l.getD k 0) ∧ ri_at h' 121 (6 + l.length) = v ∧ ri_at h' 111 17 = l.length + 1) → Q (some (cv_i x), h')) : cw_X X 185 Q 0 (cv_ent 0 [cv_r 111]) [] h0 := by
  have Fh0 : cw_Fr cw_Ds cw_sh mk_wo h0 h0 := cw_Fr_refl
  have Kh0 : zFK h0 h0 := zFK_0
  have zxl := zx_le (t := t) hpn
  obtain ⟨z1, z2, z3, z4, z5⟩ := id hz
  replace z5 := zhd_i z5
  have hA : ∀ h, cw_Fr cw_Ds cw_sh mk_wo h0 h → ∀ i, ri_at h 112 i = ri_at h0 112 i := fun h F i => ri_frr F (k := 112) (d := 51) rfl rfl (by decide +kernel)
  have hB : ∀ h, cw_Fr cw_Ds cw_sh mk_wo h0 h → ∀ i, ri_at h 113 i = ri_at h0 113 i := fun h F i => ri_frr F (k := 113) (d := 52) rfl rfl (by decide +kernel)
  refine ex_al oq_X12_workLine_0 rfl ?_
  obtain ⟨x101, ax101, rx101, lx101, ux101⟩ := fi_worksRead hT
  refine ex_gf oq_X12_workLine_1 hT (k := 111) (d := 12) rfl rfl ax101 ?_
  refine ex_bi oq_X12_workLine_4 (m := 6) (by decide) (fun x102 hx102 => ?_)
  refine ex_if oq_X12_workLine_6 (t := 15) rfl rfl (fun (c103 : ¬ x101.toInt = x102.toInt) => ?_) (fun (c103 : ¬ (¬ x101.toInt = x102.toInt)) => ?_)
  · refine ex_al oq_X12_workLine_15 rfl ?_
    refine ex_cv oq_X12_workLine_16 (by decide) hT (k := 111) (d := 12) (as := []) (stk := []) rfl rfl rfl rfl rfl rfl ⟨rfl, rfl⟩ (R := fun o => ∃ hb : cv_H, o = (none, hb) ∧ cw_T G hb ∧ cw_Fr cw_Ds cw_sh kk_X12_token.2.2.2.2.2.1 h0 hb ∧ zR t n (zx t n p) hb) (rt_tok (t := t) (n := n) (p := (zx t n p)) (fun i hi => by rw [ht i hi, ← hA _ Fh0]) hn9 (fun i hi => by rw [hB _ Fh0]; exact hwr i hi) hT (zx_le (by omega)) (by omega) (by omega) (fun hb b1 b2 b3 => ⟨hb, rfl, b1, b2, b3⟩)) (fun o ho => ?_)
    obtain ⟨h104, rfl, Th104, Ch104, Zh104⟩ := ho
    show cw_X _ _ _ _ _ [] h104
    have Fh104 : cw_Fr cw_Ds cw_sh mk_wo h0 h104 := cw_Fr_tr Fh0 (cw_Fr_mono (by decide +kernel) Ch104)
    have Kh104 := zFK_fr Ch104 (by decide +kernel) Kh0
    have eh104_111_4 : ri_at h104 111 4 = ri_at h0 111 4 := ri_frf Ch104 (d := 12) rfl rfl (by decide +kernel)
    have eh104_111_5 : ri_at h104 111 5 = ri_at h0 111 5 := ri_frf Ch104 (d := 12) rfl rfl (by decide +kernel)
    have eh104_111_11 : ri_at h104 111 11 = ri_at h0 111 11 := ri_frf Ch104 (d := 12) rfl rfl (by decide +kernel)
    have eh104_111_17 : ri_at h104 111 17 = ri_at h0 111 17 := ri_frf Ch104 (d := 12) rfl rfl (by decide +kernel)
    obtain ⟨yah104, ybh104, ych104, ydh104, -⟩ := id Zh104
    have zlh104 := zx_le (t := t) (n := n) (p := (zx t n p)) (by omega)
    refine ex_al oq_X12_workLine_19 rfl ?_
    refine ex_al oq_X12_workLine_20 rfl ?_
    refine ex_gf oq_X12_workLine_21 Th104 (k := 111) (d := 12) rfl rfl (fr_workName Th104) ?_
    refine ex_bi oq_X12_workLine_24 (m := 6) (by decide) (fun x105 hx105 => ?_)
    refine ex_al oq_X12_workLine_26 rfl ?_
    obtain ⟨x106, ax106, rx106, lx106, ux106⟩ := fi_worksRead Th104
    refine ex_gf oq_X12_workLine_27 Th104 (k := 111) (d := 12) rfl rfl ax106 ?_
    have rx106 := (rx106.symm.trans eh104_111_17 : x106.toInt = ri_at h0 111 17)
    have hlh104 : ∀ k, k < l.length → ri_at h104 121 (6 + k) = l.getD k 0 := fun k hk => by rw [show ri_at h104 121 (6 + k) = ri_at h0 121 (6 + k) from (ri_frr Ch104 (k := 121) (d := 60) rfl rfl (by decide +kernel))]; exact hl k hk
    refine ex_cv oq_X12_workLine_30 (by decide) Th104 (k := 111) (d := 12) (as := [cv_r 121, cv_i x105, cv_i x106]) (stk := []) rfl rfl rfl rfl rfl rfl ⟨rfl, rfl⟩ (R := fun o => ∃ (x : Int32) (hb : cv_H), o = (some (cv_i x), hb) ∧ cw_T G hb ∧ cw_Fr cw_Ds cw_sh kk_X12_newName_1.2.2.2.2.2.1 h104 hb ∧ zFK h104 hb ∧ zRe t n h104 hb x (zm t n l (zx t n p)) (fun v => (∀ k, k < l.length → ri_at hb 121 (6 + k) = l.getD k 0) ∧ ri_at hb 121 (6 + l.length) = v)) (rt_newNameWK (t := t) (n := n) (p := (zx t n p)) (l := l) (fun i hi => by rw [ht i hi, ← hA _ Fh104]) hn9 Th104 (fun i hi => by rw [hB _ Fh104]; exact hwr i hi) (by omega) Zh104 (by omega) (by omega) (by omega) hlh104 (fun x hb b1 b2 bk b3 => ⟨x, hb, rfl, b1, b2, bk, b3⟩)) (fun o ho => ?_)
    obtain ⟨x107, h108, rfl, Th108, Ch108, kh108, dx107⟩ := ho
    show cw_X _ _ _ _ _ [cv_i x107] h108
    have Fh108 : cw_Fr cw_Ds cw_sh mk_wo h0 h108 := cw_Fr_tr Fh104 (cw_Fr_mono (by decide +kernel) Ch108)
    have Kh108 := zFK_tr Kh104 kh108
    have eh108_111_17 : ri_at h108 111 17 = ri_at h0 111 17 := (ri_frf Ch108 (d := 12) rfl rfl (by decide +kernel)).trans eh104_111_17
    clear eh104_111_17
    refine ex_if0 oq_X12_workLine_33 (t := 47) rfl rfl (fun (c109 : x107.toInt = 0) => ?_) (fun (c109 : ¬ (x107.toInt = 0)) => ?_)
    · obtain ⟨fc1, fa1, e1_1, ax107, e1_3, e1_4, e1_5⟩ := zRe_no dx107 c109
      clear dx107
      refine ex_ic oq_X12_workLine_47 (m := 0) (by decide) (fun x110 hx110 => ?_)
      exact ex_retb oq_X12_workLine_48 rfl (by omega) (by omega) (hQ x110 h108 Th108 Fh108 Kh108 (.inr ⟨_, _, (by unfold zwl; rw [if_neg (by omega), zb2_l e1_1]), by omega, by omega, by omega, by omega⟩))
    · replace c109 : ¬ x107.toInt = 0 := by omega
      obtain ⟨v2, q2, e2_1, e2_2, ax107, Zh108, e2_5, e2_6, e2_7⟩ := zRe_yes dx107 c109
      clear dx107 c109
      replace e2_5 := e2_5.trans eh104_111_4
      clear eh104_111_4
      replace e2_6 := e2_6.trans eh104_111_5
      clear eh104_111_5
      obtain ⟨yah108, ybh108, ych108, ydh108, -⟩ := id Zh108
      have zlh108 := zx_le (t := t) (n := n) (p := q2) (by omega)
      clear yah104 ybh104 ych104 ydh104
      refine ex_al oq_X12_workLine_36 rfl ?_
      refine ex_ic oq_X12_workLine_37 (m := 1) (by decide) (fun x111 hx111 => ?_)
      refine ex_si oq_X12_workLine_38 (m := 999) (by decide) (fun x112 hx112 => ?_)
      refine ex_cv oq_X12_workLine_41 (by decide) Th108 (k := 111) (d := 12) (as := [cv_i x111, cv_i x112]) (stk := []) rfl rfl rfl rfl rfl rfl ⟨rfl, rfl⟩ (R := fun o => ∃ (x : Int32) (hb : cv_H), o = (some (cv_i x), hb) ∧ cw_T G hb ∧ cw_Fr cw_Ds cw_sh kk_X12_number.2.2.2.2.2.1 h108 hb ∧ zRe t n h108 hb x (zn t n x111.toInt x112.toInt q2) (fun v => ri_at hb 111 11 = v)) (rt_number (t := t) (n := n) (p := q2) (fun i hi => by rw [ht i hi, ← hA _ Fh108]) hn9 Th108 (fun i hi => by rw [hB _ Fh108]; exact hwr i hi) (by omega) Zh108 x111 x112 (fun x hb b1 b2 b3 => ⟨x, hb, rfl, b1, b2, b3⟩)) (fun o ho => ?_)
      obtain ⟨x113, h114, rfl, Th114, Ch114, dx113⟩ := ho
      show cw_X _ _ _ _ _ [cv_i x113] h114
      have Fh114 : cw_Fr cw_Ds cw_sh mk_wo h0 h114 := cw_Fr_tr Fh108 (cw_Fr_mono (by decide +kernel) Ch114)
      have Kh114 := zFK_fr Ch114 (by decide +kernel) Kh108
      rw [hx111] at dx113
      rw [hx112] at dx113
      have eh114_111_17 : ri_at h114 111 17 = ri_at h0 111 17 := (ri_frf Ch114 (d := 12) rfl rfl (by decide +kernel)).trans eh108_111_17
      clear eh108_111_17
      refine ex_if0 oq_X12_workLine_44 (t := 49) rfl rfl (fun (c115 : ¬ x113.toInt = 0) => ?_) (fun (c115 : ¬ (¬ x113.toInt = 0)) => ?_)
      · obtain ⟨v3, q3, e3_1, e3_2, ax113, Zh114, e3_5, e3_6, e3_7⟩ := zRe_yes dx113 c115
        clear dx113 c115
        replace e3_5 := e3_5.trans e2_5
        clear e2_5
        replace e3_6 := e3_6.trans e2_6
        clear e2_6
        obtain ⟨yah114, ybh114, ych114, ydh114, -⟩ := id Zh114
        have zlh114 := zx_le (t := t) (n := n) (p := q3) (by omega)
        clear yah108 ybh108 ych108 ydh108
        have e3_8 := zn_rg e3_1
        refine ex_bi oq_X12_workLine_49 (m := 18) (by decide) (fun x116 hx116 => ?_)
        refine ex_ic oq_X12_workLine_51 (m := 3) (by decide) (fun x117 hx117 => ?_)
        refine ex_al oq_X12_workLine_52 rfl ?_
        obtain ⟨x118, ax118, rx118, lx118, ux118⟩ := fi_worksRead Th114
        refine ex_gf oq_X12_workLine_53 Th114 (k := 111) (d := 12) rfl rfl ax118 ?_
        have rx118 := (rx118.symm.trans eh114_111_17 : x118.toInt = ri_at h0 111 17)
        refine ex_mul oq_X12_workLine_56 (m := 3 * x118.toInt) (by rw [hx117]) (by omega) (fun x119 hx119 => ?_)
        refine ex_add oq_X12_workLine_57 (by omega) (fun x120 hx120 => ?_)
        refine ex_isA oq_X12_workLine_58 (fun L121 gL121_1 kL121 => ?_)
        have gL121_0 : cv_get L121 0 = some (cv_r 111) := kL121 0 _ (by decide) (fun _ => rfl) rfl
        refine ex_al oq_X12_workLine_59 gL121_0 ?_
        refine ex_gf oq_X12_workLine_60 Th114 (k := 111) (d := 12) rfl rfl (fr_workHas Th114) ?_
        refine ex_il oq_X12_workLine_63 gL121_1 ?_
        refine ex_al oq_X12_workLine_64 gL121_0 ?_
        obtain ⟨x122, ax122, rx122, lx122, ux122⟩ := fi_got Th114
        refine ex_gf oq_X12_workLine_65 Th114 (k := 111) (d := 12) rfl rfl ax122 ?_
        have rx122 := (rx122.symm.trans e3_7 : x122.toInt = v3)
        refine ex_iw oq_X12_workLine_68 Th114 (k := 122) (d := 61) (j := 18 + 3 * l.length) rfl rfl (by omega) (by omega) (fun r hr => zw_get hr _ (cw_i32 _)) (fun h123 Th123 wh123 => ?_)
        have Fh123 : cw_Fr cw_Ds cw_sh mk_wo h0 h123 := cw_Fr_tr Fh114 (cw_Fr_wrr wh123 (k := 122) (d := 61) rfl rfl (by decide +kernel))
        have Kh123 := zFK_wr (k := 122) wh123 ((by show 18 ≤ _; omega)) Kh114
        have eh123_111_4 : ri_at h123 111 4 = ri_at h0 111 4 := (ri_ne wh123 (.inl (by decide))).trans e3_5
        have eh123_111_5 : ri_at h123 111 5 = ri_at h0 111 5 := (ri_ne wh123 (.inl (by decide))).trans e3_6
        have eh123_111_6 : ri_at h123 111 6 = (n : Int) := (ri_ne wh123 (.inl (by decide))).trans yah114
        have eh123_111_7 : ri_at h123 111 7 = ((zx t n q3 : Nat) : Int) := (ri_ne wh123 (.inl (by decide))).trans ych114
        have eh123_111_8 : ri_at h123 111 8 = zk t n q3 := (ri_ne wh123 (.inl (by decide))).trans ydh114
        have eh123_111_10 : ri_at h123 111 10 = ((za t n q3 : Nat) : Int) := (ri_ne wh123 (.inl (by decide))).trans ybh114
        have eh123_111_11 : ri_at h123 111 11 = v3 := (ri_ne wh123 (.inl (by decide))).trans e3_7
        have eh123_111_17 : ri_at h123 111 17 = ri_at h0 111 17 := (ri_ne wh123 (.inl (by decide))).trans eh114_111_17
        clear eh114_111_17
        have Zh123 := zR_wr wh123 Zh114 (.inl (by decide))
        refine ex_al oq_X12_workLine_69 gL121_0 ?_
        refine ex_cv oq_X12_workLine_70 (by decide) Th123 (k := 111) (d := 12) (as := []) (stk := []) rfl rfl rfl rfl rfl rfl ⟨rfl, rfl⟩ (R := fun o => ∃ x : Int32, o = (some (cv_i x), h123) ∧ x.toInt = zwk (zk t n q3) (zw t n q3)) (rt_workWord (t := t) (n := n) (p := q3) Th123 Zh123 (fun x q => ⟨x, rfl, q⟩)) (fun o ho => ?_)
        obtain ⟨x124, rfl, wx124⟩ := ho
        show cw_X _ _ _ _ _ [cv_i x124] h123
        have wb := zwk_b (k := zk t n q3) (w := zw t n q3)
        refine ex_isA oq_X12_workLine_73 (fun L125 gL125_2 kL125 => ?_)
        have gL125_1 : cv_get L125 1 = some (cv_i x120) := kL125 1 _ (by decide) (fun _ => rfl) gL121_1
        have gL125_0 : cv_get L125 0 = some (cv_r 111) := kL125 0 _ (by decide) (fun q => absurd q (by decide)) gL121_0
        refine ex_il oq_X12_workLine_74 gL125_2 ?_
        refine ex_if0 oq_X12_workLine_75 (t := 84) rfl rfl (fun (c126 : 0 ≤ x124.toInt) => ?_) (fun (c126 : ¬ (0 ≤ x124.toInt)) => ?_)
        · refine ex_al oq_X12_workLine_84 gL125_0 ?_
          refine ex_gf oq_X12_workLine_85 Th123 (k := 111) (d := 12) rfl rfl (fr_workHas Th123) ?_
          refine ex_il oq_X12_workLine_88 gL125_1 ?_
          refine ex_ic oq_X12_workLine_89 (m := 1) (by decide) (fun x127 hx127 => ?_)
          refine ex_add oq_X12_workLine_90 (by omega) (fun x128 hx128 => ?_)
          refine ex_il oq_X12_workLine_91 gL125_2 ?_
          refine ex_iw oq_X12_workLine_92 Th123 (k := 122) (d := 61) (j := 18 + 3 * l.length + 1) rfl rfl (by omega) (by omega) (fun r hr => zw_get hr _ (cw_i32 _)) (fun h129 Th129 wh129 => ?_)
          have Fh129 : cw_Fr cw_Ds cw_sh mk_wo h0 h129 := cw_Fr_tr Fh123 (cw_Fr_wrr wh129 (k := 122) (d := 61) rfl rfl (by decide +kernel))
          have Kh129 := zFK_wr (k := 122) wh129 ((by show 18 ≤ _; omega)) Kh123
          have eh129_111_4 : ri_at h129 111 4 = ri_at h0 111 4 := (ri_ne wh129 (.inl (by decide))).trans eh123_111_4
          clear eh123_111_4
          have eh129_111_5 : ri_at h129 111 5 = ri_at h0 111 5 := (ri_ne wh129 (.inl (by decide))).trans eh123_111_5
          clear eh123_111_5
          have eh129_111_6 : ri_at h129 111 6 = (n : Int) := (ri_ne wh129 (.inl (by decide))).trans eh123_111_6
          clear eh123_111_6
          have eh129_111_7 : ri_at h129 111 7 = ((zx t n q3 : Nat) : Int) := (ri_ne wh129 (.inl (by decide))).trans eh123_111_7
          clear eh123_111_7
          have eh129_111_8 : ri_at h129 111 8 = zk t n q3 := (ri_ne wh129 (.inl (by decide))).trans eh123_111_8
          clear eh123_111_8
          have eh129_111_10 : ri_at h129 111 10 = ((za t n q3 : Nat) : Int) := (ri_ne wh129 (.inl (by decide))).trans eh123_111_10
          clear eh123_111_10
          have eh129_111_11 : ri_at h129 111 11 = v3 := (ri_ne wh129 (.inl (by decide))).trans eh123_111_11
          clear eh123_111_11
          have eh129_111_17 : ri_at h129 111 17 = ri_at h0 111 17 := (ri_ne wh129 (.inl (by decide))).trans eh123_111_17
          clear eh123_111_17
          have Zh129 := zR_wr wh129 Zh123 (.inl (by decide))
          refine ex_al oq_X12_workLine_93 gL125_0 ?_
          refine ex_gf oq_X12_workLine_94 Th129 (k := 111) (d := 12) rfl rfl (fr_workHas Th129) ?_
          refine ex_il oq_X12_workLine_97 gL125_1 ?_
          refine ex_ic oq_X12_workLine_98 (m := 2) (by decide) (fun x130 hx130 => ?_)
          refine ex_add oq_X12_workLine_99 (by omega) (fun x131 hx131 => ?_)
          refine ex_ic oq_X12_workLine_100 (m := 0) (by decide) (fun x132 hx132 => ?_)
          refine ex_iw oq_X12_workLine_101 Th129 (k := 122) (d := 61) (j := 18 + 3 * l.length + 2) rfl rfl (by omega) (by omega) (fun r hr => zw_get hr _ (cw_i32 _)) (fun h133 Th133 wh133 => ?_)
          have Fh133 : cw_Fr cw_Ds cw_sh mk_wo h0 h133 := cw_Fr_tr Fh129 (cw_Fr_wrr wh133 (k := 122) (d := 61) rfl rfl (by decide +kernel))
          have Kh133 := zFK_wr (k := 122) wh133 ((by show 18 ≤ _; omega)) Kh129
          have eh133_111_4 : ri_at h133 111 4 = ri_at h0 111 4 := (ri_ne wh133 (.inl (by decide))).trans eh129_111_4
          clear eh129_111_4
          have eh133_111_5 : ri_at h133 111 5 = ri_at h0 111 5 := (ri_ne wh133 (.inl (by decide))).trans eh129_111_5
          clear eh129_111_5
          have eh133_111_6 : ri_at h133 111 6 = (n : Int) := (ri_ne wh133 (.inl (by decide))).trans eh129_111_6
          clear eh129_111_6
          have eh133_111_7 : ri_at h133 111 7 = ((zx t n q3 : Nat) : Int) := (ri_ne wh133 (.inl (by decide))).trans eh129_111_7
          clear eh129_111_7
          have eh133_111_8 : ri_at h133 111 8 = zk t n q3 := (ri_ne wh133 (.inl (by decide))).trans eh129_111_8
          clear eh129_111_8
          have eh133_111_10 : ri_at h133 111 10 = ((za t n q3 : Nat) : Int) := (ri_ne wh133 (.inl (by decide))).trans eh129_111_10
          clear eh129_111_10
          have eh133_111_11 : ri_at h133 111 11 = v3 := (ri_ne wh133 (.inl (by decide))).trans eh129_111_11
          clear eh129_111_11
          have eh133_111_17 : ri_at h133 111 17 = ri_at h0 111 17 := (ri_ne wh133 (.inl (by decide))).trans eh129_111_17
          clear eh129_111_17
          have Zh133 := zR_wr wh133 Zh129 (.inl (by decide))
          refine ex_al oq_X12_workLine_102 gL125_0 ?_
          refine ex_cv oq_X12_workLine_103 (by decide) Th133 (k := 111) (d := 12) (as := []) (stk := []) rfl rfl rfl rfl rfl rfl ⟨rfl, rfl⟩ (R := fun o => ∃ hb : cv_H, o = (none, hb) ∧ cw_T G hb ∧ cw_Fr cw_Ds cw_sh kk_X12_token.2.2.2.2.2.1 h133 hb ∧ zR t n (zx t n q3) hb) (rt_tok (t := t) (n := n) (p := (zx t n q3)) (fun i hi => by rw [ht i hi, ← hA _ Fh133]) hn9 (fun i hi => by rw [hB _ Fh133]; exact hwr i hi) Th133 (zx_le (by omega)) (by omega) (by omega) (fun hb b1 b2 b3 => ⟨hb, rfl, b1, b2, b3⟩)) (fun o ho => ?_)
          obtain ⟨h134, rfl, Th134, Ch134, Zh134⟩ := ho
          show cw_X _ _ _ _ _ [] h134
          have Fh134 : cw_Fr cw_Ds cw_sh mk_wo h0 h134 := cw_Fr_tr Fh133 (cw_Fr_mono (by decide +kernel) Ch134)
          have Kh134 := zFK_fr Ch134 (by decide +kernel) Kh133
          have eh134_111_4 : ri_at h134 111 4 = ri_at h0 111 4 := (ri_frf Ch134 (d := 12) rfl rfl (by decide +kernel)).trans eh133_111_4
          clear eh133_111_4
          have eh134_111_5 : ri_at h134 111 5 = ri_at h0 111 5 := (ri_frf Ch134 (d := 12) rfl rfl (by decide +kernel)).trans eh133_111_5
          clear eh133_111_5
          have eh134_111_11 : ri_at h134 111 11 = v3 := (ri_frf Ch134 (d := 12) rfl rfl (by decide +kernel)).trans eh133_111_11
          clear eh133_111_11
          have eh134_111_17 : ri_at h134 111 17 = ri_at h0 111 17 := (ri_frf Ch134 (d := 12) rfl rfl (by decide +kernel)).trans eh133_111_17
          clear eh133_111_17
          obtain ⟨yah134, ybh134, ych134, ydh134, -⟩ := id Zh134
          have zlh134 := zx_le (t := t) (n := n) (p := (zx t n q3)) (by omega)
          clear eh133_111_6 eh133_111_10 eh133_111_7 eh133_111_8
          refine ex_il oq_X12_workLine_106 gL125_2 ?_
          refine ex_ic oq_X12_workLine_107 (m := 1) (by decide) (fun x135 hx135 => ?_)
          refine ex_if oq_X12_workLine_108 (t := 137) rfl rfl (fun (c136 : x124.toInt ≤ x135.toInt) => ?_) (fun (c136 : ¬ (x124.toInt ≤ x135.toInt)) => ?_)
          · refine ex_al oq_X12_workLine_137 gL125_0 ?_
            refine ex_dup oq_X12_workLine_138 rfl ?_
            obtain ⟨x137, ax137, rx137, lx137, ux137⟩ := fi_worksRead Th134
            refine ex_gf oq_X12_workLine_139 Th134 (k := 111) (d := 12) rfl rfl ax137 ?_
            have rx137 := (rx137.symm.trans eh134_111_17 : x137.toInt = ri_at h0 111 17)
            refine ex_ic oq_X12_workLine_142 (m := 1) (by decide) (fun x138 hx138 => ?_)
            refine ex_add oq_X12_workLine_143 (by omega) (fun x139 hx139 => ?_)
            refine ex_pfi oq_X12_workLine_144 Th134 (k := 111) (d := 12) rfl rfl rfl (by omega) (by omega) (fun h140 Th140 wh140 => ?_)
            have Fh140 : cw_Fr cw_Ds cw_sh mk_wo h0 h140 := cw_Fr_tr Fh134 (cw_Fr_wrf wh140 (k := 111) (d := 12) rfl rfl (by decide +kernel))
            have Kh140 := zFK_wr (k := 111) wh140 (Nat.zero_le _) Kh134
            have eh140_111_4 : ri_at h140 111 4 = ri_at h0 111 4 := (ri_ne wh140 (by decide)).trans eh134_111_4
            clear eh134_111_4
            have eh140_111_5 : ri_at h140 111 5 = ri_at h0 111 5 := (ri_ne wh140 (by decide)).trans eh134_111_5
            clear eh134_111_5
            have eh140_111_6 : ri_at h140 111 6 = (n : Int) := (ri_ne wh140 (by decide)).trans yah134
            have eh140_111_7 : ri_at h140 111 7 = ((zx t n (zx t n q3) : Nat) : Int) := (ri_ne wh140 (by decide)).trans ych134
            have eh140_111_8 : ri_at h140 111 8 = zk t n (zx t n q3) := (ri_ne wh140 (by decide)).trans ydh134
            have eh140_111_10 : ri_at h140 111 10 = ((za t n (zx t n q3) : Nat) : Int) := (ri_ne wh140 (by decide)).trans ybh134
            have eh140_111_11 : ri_at h140 111 11 = v3 := (ri_ne wh140 (by decide)).trans eh134_111_11
            clear eh134_111_11
            have eh140_111_17 : ri_at h140 111 17 = x139.toInt := ri_self wh140
            have Zh140 := zR_wr wh140 Zh134 (.inr (by decide))
            refine ex_ic oq_X12_workLine_147 (m := 1) (by decide) (fun x141 hx141 => ?_)
            have hr : ∀ i, ri_at h140 121 i = ri_at h108 121 i := fun i => ((ri_ne wh140 (.inl (by decide))).trans ((ri_frr Ch134 (k := 121) (d := 60) rfl rfl (by decide +kernel)).trans ((ri_ne wh133 (.inl (by decide))).trans ((ri_ne wh129 (.inl (by decide))).trans ((ri_ne wh123 (.inl (by decide))).trans (ri_frr Ch114 (k := 121) (d := 60) rfl rfl (by decide +kernel)))))))
            exact ex_retb oq_X12_workLine_148 rfl (by omega) (by omega) (hQ x141 h140 Th140 Fh140 Kh140 (.inl ⟨_, _, (by unfold zwl; rw [if_neg (by omega), zb2_r e2_1, zb2_r e3_1, if_neg (by omega), if_neg (by omega)]), by omega, by omega, Zh140, by omega, by omega, fun k hk => by rw [hr]; exact e2_7.1 k hk, by rw [hr]; exact e2_7.2, by omega⟩))
          · refine ex_al oq_X12_workLine_111 gL125_0 ?_
            refine ex_ic oq_X12_workLine_112 (m := 0) (by decide) (fun x142 hx142 => ?_)
            refine ex_il oq_X12_workLine_113 gL125_2 ?_
            refine ex_cs oq_X12_workLine_114 (by decide) (as := [cv_i x124]) (stk := [cv_i x142, cv_r 111]) rfl rfl rfl ⟨rfl, rfl⟩ (R := fun o => ∃ x : Int32, o = (some (cv_i x), h134) ∧ x.toInt = zmo x124.toInt) (rt_mostOf x124 (fun x q => ⟨x, rfl, q⟩)) (fun o ho => ?_)
            obtain ⟨x143, rfl, mx143⟩ := ho
            show cw_X _ _ _ _ _ [cv_i x143, cv_i x142, cv_r 111] h134
            have mb := zmo_b (k := x124.toInt)
            refine ex_cv oq_X12_workLine_117 (by decide) Th134 (k := 111) (d := 12) (as := [cv_i x142, cv_i x143]) (stk := []) rfl rfl rfl rfl rfl rfl ⟨rfl, rfl⟩ (R := fun o => ∃ (x : Int32) (hb : cv_H), o = (some (cv_i x), hb) ∧ cw_T G hb ∧ cw_Fr cw_Ds cw_sh kk_X12_number.2.2.2.2.2.1 h134 hb ∧ zRe t n h134 hb x (zn t n x142.toInt x143.toInt (zx t n q3)) (fun v => ri_at hb 111 11 = v)) (rt_number (t := t) (n := n) (p := (zx t n q3)) (fun i hi => by rw [ht i hi, ← hA _ Fh134]) hn9 Th134 (fun i hi => by rw [hB _ Fh134]; exact hwr i hi) (by omega) Zh134 x142 x143 (fun x hb b1 b2 b3 => ⟨x, hb, rfl, b1, b2, b3⟩)) (fun o ho => ?_)
            obtain ⟨x144, h145, rfl, Th145, Ch145, dx144⟩ := ho
            show cw_X _ _ _ _ _ [cv_i x144] h145
            have Fh145 : cw_Fr cw_Ds cw_sh mk_wo h0 h145 := cw_Fr_tr Fh134 (cw_Fr_mono (by decide +kernel) Ch145)
            have Kh145 := zFK_fr Ch145 (by decide +kernel) Kh134
            rw [hx142] at dx144
            have eh145_111_17 : ri_at h145 111 17 = ri_at h0 111 17 := (ri_frf Ch145 (d := 12) rfl rfl (by decide +kernel)).trans eh134_111_17
            clear eh134_111_17
            refine ex_if0 oq_X12_workLine_120 (t := 125) rfl rfl (fun (c146 : ¬ x144.toInt = 0) => ?_) (fun (c146 : ¬ (¬ x144.toInt = 0)) => ?_)
            · obtain ⟨v4, q4, e4_1, e4_2, ax144, Zh145, e4_5, e4_6, e4_7⟩ := zRe_yes dx144 c146
              clear dx144 c146
              replace e4_5 := e4_5.trans eh134_111_4
              clear eh134_111_4
              replace e4_6 := e4_6.trans eh134_111_5
              clear eh134_111_5
              obtain ⟨yah145, ybh145, ych145, ydh145, -⟩ := id Zh145
              have zlh145 := zx_le (t := t) (n := n) (p := q4) (by omega)
              clear yah134 ybh134 ych134 ydh134
              have e4_8 := zn_rg e4_1
              refine ex_al oq_X12_workLine_125 gL125_0 ?_
              refine ex_gf oq_X12_workLine_126 Th145 (k := 111) (d := 12) rfl rfl (fr_workHas Th145) ?_
              refine ex_il oq_X12_workLine_129 gL125_1 ?_
              refine ex_ic oq_X12_workLine_130 (m := 2) (by decide) (fun x147 hx147 => ?_)
              refine ex_add oq_X12_workLine_131 (by omega) (fun x148 hx148 => ?_)
              refine ex_al oq_X12_workLine_132 gL125_0 ?_
              obtain ⟨x149, ax149, rx149, lx149, ux149⟩ := fi_got Th145
              refine ex_gf oq_X12_workLine_133 Th145 (k := 111) (d := 12) rfl rfl ax149 ?_
              have rx149 := (rx149.symm.trans e4_7 : x149.toInt = v4)
              refine ex_iw oq_X12_workLine_136 Th145 (k := 122) (d := 61) (j := 18 + 3 * l.length + 2) rfl rfl (by omega) (by omega) (fun r hr => zw_get hr _ (cw_i32 _)) (fun h150 Th150 wh150 => ?_)
              have Fh150 : cw_Fr cw_Ds cw_sh mk_wo h0 h150 := cw_Fr_tr Fh145 (cw_Fr_wrr wh150 (k := 122) (d := 61) rfl rfl (by decide +kernel))
              have Kh150 := zFK_wr (k := 122) wh150 ((by show 18 ≤ _; omega)) Kh145
              have eh150_111_4 : ri_at h150 111 4 = ri_at h0 111 4 := (ri_ne wh150 (.inl (by decide))).trans e4_5
              have eh150_111_5 : ri_at h150 111 5 = ri_at h0 111 5 := (ri_ne wh150 (.inl (by decide))).trans e4_6
              have eh150_111_6 : ri_at h150 111 6 = (n : Int) := (ri_ne wh150 (.inl (by decide))).trans yah145
              have eh150_111_7 : ri_at h150 111 7 = ((zx t n q4 : Nat) : Int) := (ri_ne wh150 (.inl (by decide))).trans ych145
              have eh150_111_8 : ri_at h150 111 8 = zk t n q4 := (ri_ne wh150 (.inl (by decide))).trans ydh145
              have eh150_111_10 : ri_at h150 111 10 = ((za t n q4 : Nat) : Int) := (ri_ne wh150 (.inl (by decide))).trans ybh145
              have eh150_111_11 : ri_at h150 111 11 = v4 := (ri_ne wh150 (.inl (by decide))).trans e4_7
              have eh150_111_17 : ri_at h150 111 17 = ri_at h0 111 17 := (ri_ne wh150 (.inl (by decide))).trans eh145_111_17
              clear eh145_111_17
              have Zh150 := zR_wr wh150 Zh145 (.inl (by decide))
              refine ex_al oq_X12_workLine_137 gL125_0 ?_
              refine ex_dup oq_X12_workLine_138 rfl ?_
              obtain ⟨x151, ax151, rx151, lx151, ux151⟩ := fi_worksRead Th150
              refine ex_gf oq_X12_workLine_139 Th150 (k := 111) (d := 12) rfl rfl ax151 ?_
              have rx151 := (rx151.symm.trans eh150_111_17 : x151.toInt = ri_at h0 111 17)
              refine ex_ic oq_X12_workLine_142 (m := 1) (by decide) (fun x152 hx152 => ?_)
              refine ex_add oq_X12_workLine_143 (by omega) (fun x153 hx153 => ?_)
              refine ex_pfi oq_X12_workLine_144 Th150 (k := 111) (d := 12) rfl rfl rfl (by omega) (by omega) (fun h154 Th154 wh154 => ?_)
              have Fh154 : cw_Fr cw_Ds cw_sh mk_wo h0 h154 := cw_Fr_tr Fh150 (cw_Fr_wrf wh154 (k := 111) (d := 12) rfl rfl (by decide +kernel))
              have Kh154 := zFK_wr (k := 111) wh154 (Nat.zero_le _) Kh150
              have eh154_111_4 : ri_at h154 111 4 = ri_at h0 111 4 := (ri_ne wh154 (by decide)).trans eh150_111_4
              clear eh150_111_4
              have eh154_111_5 : ri_at h154 111 5 = ri_at h0 111 5 := (ri_ne wh154 (by decide)).trans eh150_111_5
              clear eh150_111_5
              have eh154_111_6 : ri_at h154 111 6 = (n : Int) := (ri_ne wh154 (by decide)).trans eh150_111_6
              clear eh150_111_6
              have eh154_111_7 : ri_at h154 111 7 = ((zx t n q4 : Nat) : Int) := (ri_ne wh154 (by decide)).trans eh150_111_7
              clear eh150_111_7
              have eh154_111_8 : ri_at h154 111 8 = zk t n q4 := (ri_ne wh154 (by decide)).trans eh150_111_8
              clear eh150_111_8
              have eh154_111_10 : ri_at h154 111 10 = ((za t n q4 : Nat) : Int) := (ri_ne wh154 (by decide)).trans eh150_111_10
              clear eh150_111_10
              have eh154_111_11 : ri_at h154 111 11 = v4 := (ri_ne wh154 (by decide)).trans eh150_111_11
              clear eh150_111_11
              have eh154_111_17 : ri_at h154 111 17 = x153.toInt := ri_self wh154
              have Zh154 := zR_wr wh154 Zh150 (.inr (by decide))
              refine ex_ic oq_X12_workLine_147 (m := 1) (by decide) (fun x155 hx155 => ?_)
              have hr : ∀ i, ri_at h154 121 i = ri_at h108 121 i := fun i => ((ri_ne wh154 (.inl (by decide))).trans ((ri_ne wh150 (.inl (by decide))).trans ((ri_frr Ch145 (k := 121) (d := 60) rfl rfl (by decide +kernel)).trans ((ri_frr Ch134 (k := 121) (d := 60) rfl rfl (by decide +kernel)).trans ((ri_ne wh133 (.inl (by decide))).trans ((ri_ne wh129 (.inl (by decide))).trans ((ri_ne wh123 (.inl (by decide))).trans (ri_frr Ch114 (k := 121) (d := 60) rfl rfl (by decide +kernel)))))))))
              exact ex_retb oq_X12_workLine_148 rfl (by omega) (by omega) (hQ x155 h154 Th154 Fh154 Kh154 (.inl ⟨_, _, (by unfold zwl; rw [if_neg (by omega), zb2_r e2_1, zb2_r e3_1, if_neg (by omega), if_pos (by omega), ← wx124, ← mx143, zb2_r e4_1]), by omega, by omega, Zh154, by omega, by omega, fun k hk => by rw [hr]; exact e2_7.1 k hk, by rw [hr]; exact e2_7.2, by omega⟩))
            · replace c146 : x144.toInt = 0 := by omega
              obtain ⟨fc5, fa5, e5_1, ax144, e5_3, e5_4, e5_5⟩ := zRe_no dx144 c146
              clear dx144
              refine ex_ic oq_X12_workLine_123 (m := 0) (by decide) (fun x156 hx156 => ?_)
              exact ex_retb oq_X12_workLine_124 rfl (by omega) (by omega) (hQ x156 h145 Th145 Fh145 Kh145 (.inr ⟨_, _, (by unfold zwl; rw [if_neg (by omega), zb2_r e2_1, zb2_r e3_1, if_neg (by omega), if_pos (by omega), ← wx124, ← mx143, zb2_l e5_1]), by omega, by omega, by omega, by omega⟩))
        · refine ex_al oq_X12_workLine_78 gL125_0 ?_
          refine ex_ic oq_X12_workLine_79 (m := 1) (by decide) (fun x157 hx157 => ?_)
          refine ex_cv oq_X12_workLine_80 (by decide) Th123 (k := 111) (d := 12) (as := [cv_i x157]) (stk := []) rfl rfl rfl rfl rfl rfl ⟨rfl, rfl⟩ (R := fun o => ∃ (x : Int32) (hb : cv_H), o = (some (cv_i x), hb) ∧ cw_T G hb ∧ cw_Fr cw_Ds cw_sh kk_X12_wrong.2.2.2.2.2.1 h123 hb ∧ x.toInt = 0 ∧ ri_at hb 111 4 = x157.toInt ∧ ri_at hb 111 5 = ri_at h123 111 10) (rt_wrong Th123 x157 (fun x hb b1 b2 b3 b4 b5 => ⟨x, hb, rfl, b1, b2, b3, b4, b5⟩)) (fun o ho => ?_)
          obtain ⟨x158, h159, rfl, Th159, Ch159, zh159, fh159, ph159⟩ := ho
          show cw_X _ _ _ _ _ [cv_i x158] h159
          have Fh159 : cw_Fr cw_Ds cw_sh mk_wo h0 h159 := cw_Fr_tr Fh123 (cw_Fr_mono (by decide +kernel) Ch159)
          have Kh159 := zFK_fr Ch159 (by decide +kernel) Kh123
          exact ex_retb oq_X12_workLine_83 rfl (by omega) (by omega) (hQ x158 h159 Th159 Fh159 Kh159 (.inr ⟨_, _, (by unfold zwl; rw [if_neg (by omega), zb2_r e2_1, zb2_r e3_1, if_pos (by omega)]), by omega, by omega, by omega, by decide⟩))
      · replace c115 : x113.toInt = 0 := by omega
        obtain ⟨fc6, fa6, e6_1, ax113, e6_3, e6_4, e6_5⟩ := zRe_no dx113 c115
        clear dx113
        refine ex_ic oq_X12_workLine_47 (m := 0) (by decide) (fun x160 hx160 => ?_)
        exact ex_retb oq_X12_workLine_48 rfl (by omega) (by omega) (hQ x160 h114 Th114 Fh114 Kh114 (.inr ⟨_, _, (by unfold zwl; rw [if_neg (by omega), zb2_r e2_1, zb2_l e6_1]), by omega, by omega, by omega, by omega⟩))
  · refine ex_al oq_X12_workLine_9 rfl ?_
    refine ex_ic oq_X12_workLine_10 (m := 2) (by decide) (fun x161 hx161 => ?_)
    refine ex_cv oq_X12_workLine_11 (by decide) hT (k := 111) (d := 12) (as := [cv_i x161]) (stk := []) rfl rfl rfl rfl rfl rfl ⟨rfl, rfl⟩ (R := fun o => ∃ (x : Int32) (hb : cv_H), o = (some (cv_i x), hb) ∧ cw_T G hb ∧ cw_Fr cw_Ds cw_sh kk_X12_wrong.2.2.2.2.2.1 h0 hb ∧ x.toInt = 0 ∧ ri_at hb 111 4 = x161.toInt ∧ ri_at hb 111 5 = ri_at h0 111 10) (rt_wrong hT x161 (fun x hb b1 b2 b3 b4 b5 => ⟨x, hb, rfl, b1, b2, b3, b4, b5⟩)) (fun o ho => ?_)
    obtain ⟨x162, h163, rfl, Th163, Ch163, zh163, fh163, ph163⟩ := ho
    show cw_X _ _ _ _ _ [cv_i x162] h163
    have Fh163 : cw_Fr cw_Ds cw_sh mk_wo h0 h163 := cw_Fr_tr Fh0 (cw_Fr_mono (by decide +kernel) Ch163)
    have Kh163 := zFK_fr Ch163 (by decide +kernel) Kh0
    exact ex_retb oq_X12_workLine_14 rfl (by omega) (by omega) (hQ x162 h163 Th163 Fh163 Kh163 (.inr ⟨_, _, (by unfold zwl; rw [if_pos (by omega)]), by omega, by omega, by omega, by decide⟩))
set_option maxHeartbeats 8000000 in
theorem rt_groundLineK {h0 : cv_H} {n p : Nat} (ht : ∀ i, i < n → t i = ri_at h0 112 i) (hn9 : n ≤ 900) (hT : cw_T G h0) (hwr : ∀ i, i < 177 → ri_at h0 113 i = pp_words.getD i 0) (hpn : p ≤ n) (hz : zR t n p h0) (hQ : ∀ (x : Int32) h', cw_T G h' → cw_Fr cw_Ds cw_sh kk_X12_groundLine.2.2.2.2.2.1 h0 h' → zFK h0 h' → zRe t n h0 h' x (zgl t n (ri_at h0 111 20) p) (fun vs => (∀ i, i < 12 → ri_at h' 114 (12 + i) = vs.getD i 0) ∧ ri_at h' 111 20 = 1) → Q (some (cv_i x), h')) : cw_X X 176 Q 0 (cv_ent 0 [cv_r 111]) [] h0 := by
  have Fh0 : cw_Fr cw_Ds cw_sh kk_X12_groundLine.2.2.2.2.2.1 h0 h0 := cw_Fr_refl
  have Kh0 : zFK h0 h0 := zFK_0
  have zxl := zx_le (t := t) hpn
  obtain ⟨z1, z2, z3, z4, z5⟩ := id hz
  replace z5 := zhd_i z5
  have hA : ∀ h, cw_Fr cw_Ds cw_sh kk_X12_groundLine.2.2.2.2.2.1 h0 h → ∀ i, ri_at h 112 i = ri_at h0 112 i := fun h F i => ri_frr F (k := 112) (d := 51) rfl rfl (by decide +kernel)
  have hB : ∀ h, cw_Fr cw_Ds cw_sh kk_X12_groundLine.2.2.2.2.2.1 h0 h → ∀ i, ri_at h 113 i = ri_at h0 113 i := fun h F i => ri_frr F (k := 113) (d := 52) rfl rfl (by decide +kernel)
  refine ex_al oq_X12_groundLine_0 rfl ?_
  obtain ⟨x101, ax101, rx101, lx101, ux101⟩ := fi_groundTold hT
  refine ex_gf oq_X12_groundLine_1 hT (k := 111) (d := 12) rfl rfl ax101 ?_
  refine ex_if0 oq_X12_groundLine_4 (t := 13) rfl rfl (fun (c102 : x101.toInt = 0) => ?_) (fun (c102 : ¬ (x101.toInt = 0)) => ?_)
  · refine ex_al oq_X12_groundLine_13 rfl ?_
    refine ex_ic oq_X12_groundLine_14 (m := 1) (by decide) (fun x103 hx103 => ?_)
    refine ex_pfb oq_X12_groundLine_15 hT (k := 111) (d := 12) rfl rfl rfl (by omega) (by omega) (fun h104 Th104 wh104 => ?_)
    have Fh104 : cw_Fr cw_Ds cw_sh kk_X12_groundLine.2.2.2.2.2.1 h0 h104 := cw_Fr_tr Fh0 (cw_Fr_wrf wh104 (k := 111) (d := 12) rfl rfl (by decide +kernel))
    have Kh104 := zFK_wr (k := 111) wh104 (Nat.zero_le _) Kh0
    have eh104_111_4 : ri_at h104 111 4 = ri_at h0 111 4 := ri_ne wh104 (by decide)
    have eh104_111_5 : ri_at h104 111 5 = ri_at h0 111 5 := ri_ne wh104 (by decide)
    have eh104_111_6 : ri_at h104 111 6 = (n : Int) := (ri_ne wh104 (by decide)).trans z1
    have eh104_111_7 : ri_at h104 111 7 = ((zx t n p : Nat) : Int) := (ri_ne wh104 (by decide)).trans z3
    have eh104_111_8 : ri_at h104 111 8 = zk t n p := (ri_ne wh104 (by decide)).trans z4
    have eh104_111_10 : ri_at h104 111 10 = ((za t n p : Nat) : Int) := (ri_ne wh104 (by decide)).trans z2
    have eh104_111_11 : ri_at h104 111 11 = ri_at h0 111 11 := ri_ne wh104 (by decide)
    have eh104_111_20 : ri_at h104 111 20 = x103.toInt := ri_self wh104
    have Zh104 := zR_wr wh104 hz (.inr (by decide))
    refine ex_al oq_X12_groundLine_18 rfl ?_
    refine ex_cv oq_X12_groundLine_19 (by decide) Th104 (k := 111) (d := 12) (as := []) (stk := []) rfl rfl rfl rfl rfl rfl ⟨rfl, rfl⟩ (R := fun o => ∃ hb : cv_H, o = (none, hb) ∧ cw_T G hb ∧ cw_Fr cw_Ds cw_sh kk_X12_token.2.2.2.2.2.1 h104 hb ∧ zR t n (zx t n p) hb) (rt_tok (t := t) (n := n) (p := (zx t n p)) (fun i hi => by rw [ht i hi, ← hA _ Fh104]) hn9 (fun i hi => by rw [hB _ Fh104]; exact hwr i hi) Th104 (zx_le (by omega)) (by omega) (by omega) (fun hb b1 b2 b3 => ⟨hb, rfl, b1, b2, b3⟩)) (fun o ho => ?_)
    obtain ⟨h105, rfl, Th105, Ch105, Zh105⟩ := ho
    show cw_X _ _ _ _ _ [] h105
    have Fh105 : cw_Fr cw_Ds cw_sh kk_X12_groundLine.2.2.2.2.2.1 h0 h105 := cw_Fr_tr Fh104 (cw_Fr_mono (by decide +kernel) Ch105)
    have Kh105 := zFK_fr Ch105 (by decide +kernel) Kh104
    have eh105_111_4 : ri_at h105 111 4 = ri_at h0 111 4 := (ri_frf Ch105 (d := 12) rfl rfl (by decide +kernel)).trans eh104_111_4
    clear eh104_111_4
    have eh105_111_5 : ri_at h105 111 5 = ri_at h0 111 5 := (ri_frf Ch105 (d := 12) rfl rfl (by decide +kernel)).trans eh104_111_5
    clear eh104_111_5
    have eh105_111_11 : ri_at h105 111 11 = ri_at h0 111 11 := (ri_frf Ch105 (d := 12) rfl rfl (by decide +kernel)).trans eh104_111_11
    clear eh104_111_11
    have eh105_111_20 : ri_at h105 111 20 = x103.toInt := (ri_frf Ch105 (d := 12) rfl rfl (by decide +kernel)).trans eh104_111_20
    clear eh104_111_20
    obtain ⟨yah105, ybh105, ych105, ydh105, -⟩ := id Zh105
    have zlh105 := zx_le (t := t) (n := n) (p := (zx t n p)) (by omega)
    clear eh104_111_6 eh104_111_10 eh104_111_7 eh104_111_8
    refine ex_al oq_X12_groundLine_22 rfl ?_
    refine ex_al oq_X12_groundLine_23 rfl ?_
    refine ex_gf oq_X12_groundLine_24 Th105 (k := 111) (d := 12) rfl rfl (fr_ground Th105) ?_
    refine ex_bi oq_X12_groundLine_27 (m := 12) (by decide) (fun x106 hx106 => ?_)
    refine ex_bi oq_X12_groundLine_29 (m := 12) (by decide) (fun x107 hx107 => ?_)
    refine ex_ic oq_X12_groundLine_31 (m := 1) (by decide) (fun x108 hx108 => ?_)
    refine ex_bi oq_X12_groundLine_32 (m := 99) (by decide) (fun x109 hx109 => ?_)
    refine ex_cv oq_X12_groundLine_34 (by decide) Th105 (k := 111) (d := 12) (as := [cv_r 114, cv_i x106, cv_i x107, cv_i x108, cv_i x109]) (stk := []) rfl rfl rfl rfl rfl rfl ⟨rfl, rfl⟩ (R := fun o => ∃ (x : Int32) (hb : cv_H), o = (some (cv_i x), hb) ∧ cw_T G hb ∧ cw_Fr cw_Ds cw_sh kk_X12_numbers.2.2.2.2.2.1 h105 hb ∧ zFK h105 hb ∧ zRe t n h105 hb x (zns t n x108.toInt x109.toInt 12 (zx t n p)) (fun vs => (∀ i, i < 12 → ri_at hb 114 (12 + i) = vs.getD i 0) ∧ ∀ i, (i < 12 ∨ 12 + 12 ≤ i) → ri_at hb 114 i = ri_at h105 114 i)) (rt_numbersGK (t := t) (n := n) (p := (zx t n p)) (f := 12) (m := 12) Th105 (by omega) Zh105 (fun i hi => by rw [ht i hi, ← hA _ Fh105]) hn9 (fun i hi => by rw [hB _ Fh105]; exact hwr i hi) (by omega) (by omega) (by omega) (by omega) (by omega) (by omega) (fun x hb b1 b2 bk b3 => ⟨x, hb, rfl, b1, b2, bk, b3⟩)) (fun o ho => ?_)
    obtain ⟨x110, h111, rfl, Th111, Ch111, kh111, dx110⟩ := ho
    show cw_X _ _ _ _ _ [cv_i x110] h111
    have Fh111 : cw_Fr cw_Ds cw_sh kk_X12_groundLine.2.2.2.2.2.1 h0 h111 := cw_Fr_tr Fh105 (cw_Fr_mono (by decide +kernel) Ch111)
    have Kh111 := zFK_tr Kh105 kh111
    rw [hx108] at dx110
    rw [hx109] at dx110
    have eh111_111_20 : ri_at h111 111 20 = x103.toInt := (ri_frf Ch111 (d := 12) rfl rfl (by decide +kernel)).trans eh105_111_20
    clear eh105_111_20
    have ez : zgl t n (ri_at h0 111 20) p = zns t n 1 99 12 (zx t n p) := by unfold zgl; rw [if_pos (by omega)]
    have hx01 : 0 ≤ x110.toInt ∧ x110.toInt ≤ 1 := by rcases dx110 with ⟨v, q, e1, e2, e3, _⟩ | ⟨f, a, e1, e2, _⟩ <;> omega
    refine ex_retb oq_X12_groundLine_37 rfl hx01.1 hx01.2 (hQ x110 h111 Th111 Fh111 Kh111 ?_)
    rw [ez]
    rcases dx110 with ⟨v, q, e1, e2, e3, e4, e5, e6, e7⟩ | ⟨f, a, e1, e2, e3, e4, e5⟩
    · exact .inl ⟨v, q, e1, e2, e3, e4, by omega, by omega, fun i hi => e7.1 i hi, by omega⟩
    · exact .inr ⟨f, a, e1, e2, e3, e4, e5⟩
  · replace c102 : ¬ x101.toInt = 0 := by omega
    refine ex_al oq_X12_groundLine_7 rfl ?_
    refine ex_ic oq_X12_groundLine_8 (m := 3) (by decide) (fun x112 hx112 => ?_)
    refine ex_cv oq_X12_groundLine_9 (by decide) hT (k := 111) (d := 12) (as := [cv_i x112]) (stk := []) rfl rfl rfl rfl rfl rfl ⟨rfl, rfl⟩ (R := fun o => ∃ (x : Int32) (hb : cv_H), o = (some (cv_i x), hb) ∧ cw_T G hb ∧ cw_Fr cw_Ds cw_sh kk_X12_wrong.2.2.2.2.2.1 h0 hb ∧ x.toInt = 0 ∧ ri_at hb 111 4 = x112.toInt ∧ ri_at hb 111 5 = ri_at h0 111 10) (rt_wrong hT x112 (fun x hb b1 b2 b3 b4 b5 => ⟨x, hb, rfl, b1, b2, b3, b4, b5⟩)) (fun o ho => ?_)
    obtain ⟨x113, h114, rfl, Th114, Ch114, zh114, fh114, ph114⟩ := ho
    show cw_X _ _ _ _ _ [cv_i x113] h114
    have Fh114 : cw_Fr cw_Ds cw_sh kk_X12_groundLine.2.2.2.2.2.1 h0 h114 := cw_Fr_tr Fh0 (cw_Fr_mono (by decide +kernel) Ch114)
    have Kh114 := zFK_fr Ch114 (by decide +kernel) Kh0
    exact ex_retb oq_X12_groundLine_12 rfl (by omega) (by omega) (hQ x113 h114 Th114 Fh114 Kh114 (.inr ⟨_, _, (by unfold zgl; rw [if_neg (by omega)]), by omega, by omega, by omega, by decide⟩))
end TZ
