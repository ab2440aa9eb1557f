/-! ===== weeks, keep, back: the reference ===== -/
theorem rg_G {G : Int} {h : cv_H} (hT : cw_T G h) : ri_at h 111 12 = G := by
  obtain ⟨vs, h1, h2, h3⟩ := cw_cell_o (d := 12) (k := 111) rfl (hT 111 12 rfl)
  obtain ⟨v, h4, x, rfl, h5⟩ := h3 12 _ rfl
  have e : cw_at h 111 12 = some (cv_i x) := by unfold cw_at; rw [h1]; exact h4
  rw [ri_of e]
  exact h5.2.2.2.2.1 rfl
section TZ
variable {G : Int} {X : cv_X} {Q : cv_O → Prop}
set_option maxHeartbeats 8000000 in
theorem wq_lp {h0 : cv_H} (hX : cw_Xok X) (hP : cw_PP G h0) {w : Int} {n : Int32} (hn : 0 ≤ n.toInt ∧ n.toInt ≤ 520) (hw2 : 0 ≤ w ∧ w + n.toInt ≤ 2000) (hQ : ∀ (x : Int32) h', cw_T G h' → cw_PP G h' → cw_Fr cw_Ds cw_sh kk_X12_weeks.2.2.2.2.2.1 h0 h' → ((¬ (0 ≤ n.toInt ∧ n.toInt ≤ 520) ∨ 2000 < w + n.toInt) ∧ x.toInt = -1 ∧ ri_at h' 111 43 = w ∨ ((0 ≤ n.toInt ∧ n.toInt ≤ 520) ∧ w + n.toInt ≤ 2000) ∧ x.toInt = w + n.toInt ∧ ri_at h' 111 43 = w + n.toInt) → Q (some (cv_i x), h')) : ∀ (u i : Nat) (L : cv_L) (I : Int32) (h : cv_H), i + u = 4 → cw_T G h → cw_Fr cw_Ds cw_sh kk_X12_weeks.2.2.2.2.2.1 h0 h → ri_at h 111 43 = w → I.toInt = i → cv_get L 0 = some (cv_r 111) → cv_get L 1 = some (cv_i n) → cv_get L 2 = some (cv_i I) → cw_X X 221 Q 32 L [] h := by
  intro u
  induction u with
  | zero =>
    intro i L I h hiu hT Fh hw hI g0 g1 g2
    have hG := rg_G hT
    refine ex_il oq_X12_weeks_32 g2 ?_
    refine ex_al oq_X12_weeks_33 g0 ?_
    obtain ⟨x101, ax101, rx101, lx101, ux101⟩ := fi_gates hT
    refine ex_gf oq_X12_weeks_34 hT (k := 111) (d := 12) rfl rfl ax101 ?_
    refine ex_if oq_X12_weeks_37 (t := 73) rfl rfl (fun (c102 : x101.toInt ≤ I.toInt) => ?_) (fun (c102 : ¬ (x101.toInt ≤ I.toInt)) => ?_)
    · refine ex_al oq_X12_weeks_73 g0 ?_
      refine ex_dup oq_X12_weeks_74 rfl ?_
      obtain ⟨x103, ax103, rx103, lx103, ux103⟩ := fi_week hT
      refine ex_gf oq_X12_weeks_75 hT (k := 111) (d := 12) rfl rfl ax103 ?_
      have rx103 := (rx103.symm.trans hw : x103.toInt = w)
      refine ex_il oq_X12_weeks_78 g1 ?_
      refine ex_add oq_X12_weeks_79 (by omega) (fun x104 hx104 => ?_)
      refine ex_pfi oq_X12_weeks_80 hT (k := 111) (d := 12) rfl rfl rfl (by omega) (by omega) (fun h105 Th105 wh105 => ?_)
      have Fh105 : cw_Fr cw_Ds cw_sh kk_X12_weeks.2.2.2.2.2.1 h0 h105 := cw_Fr_tr Fh (cw_Fr_wrf wh105 (k := 111) (d := 12) rfl rfl (by decide +kernel))
      have eh105_111_43 : ri_at h105 111 43 = x104.toInt := ri_self wh105
      refine ex_al oq_X12_weeks_83 g0 ?_
      obtain ⟨x106, ax106, rx106, lx106, ux106⟩ := fi_week Th105
      refine ex_gf oq_X12_weeks_84 Th105 (k := 111) (d := 12) rfl rfl ax106 ?_
      have rx106 := (rx106.symm.trans eh105_111_43 : x106.toInt = x104.toInt)
      exact ex_reti oq_X12_weeks_87 rfl (hQ x106 h105 Th105 (pp_fr0 (by decide +kernel) hP Fh105) Fh105 (by omega))
    · exfalso; omega
  | succ u ih =>
    intro i L I h hiu hT Fh hw hI g0 g1 g2
    have hG := rg_G hT
    refine ex_il oq_X12_weeks_32 g2 ?_
    refine ex_al oq_X12_weeks_33 g0 ?_
    obtain ⟨x101, ax101, rx101, lx101, ux101⟩ := fi_gates hT
    refine ex_gf oq_X12_weeks_34 hT (k := 111) (d := 12) rfl rfl ax101 ?_
    refine ex_if oq_X12_weeks_37 (t := 73) rfl rfl (fun (c102 : x101.toInt ≤ I.toInt) => ?_) (fun (c102 : ¬ (x101.toInt ≤ I.toInt)) => ?_)
    · refine ex_al oq_X12_weeks_73 g0 ?_
      refine ex_dup oq_X12_weeks_74 rfl ?_
      obtain ⟨x103, ax103, rx103, lx103, ux103⟩ := fi_week hT
      refine ex_gf oq_X12_weeks_75 hT (k := 111) (d := 12) rfl rfl ax103 ?_
      have rx103 := (rx103.symm.trans hw : x103.toInt = w)
      refine ex_il oq_X12_weeks_78 g1 ?_
      refine ex_add oq_X12_weeks_79 (by omega) (fun x104 hx104 => ?_)
      refine ex_pfi oq_X12_weeks_80 hT (k := 111) (d := 12) rfl rfl rfl (by omega) (by omega) (fun h105 Th105 wh105 => ?_)
      have Fh105 : cw_Fr cw_Ds cw_sh kk_X12_weeks.2.2.2.2.2.1 h0 h105 := cw_Fr_tr Fh (cw_Fr_wrf wh105 (k := 111) (d := 12) rfl rfl (by decide +kernel))
      have eh105_111_43 : ri_at h105 111 43 = x104.toInt := ri_self wh105
      refine ex_al oq_X12_weeks_83 g0 ?_
      obtain ⟨x106, ax106, rx106, lx106, ux106⟩ := fi_week Th105
      refine ex_gf oq_X12_weeks_84 Th105 (k := 111) (d := 12) rfl rfl ax106 ?_
      have rx106 := (rx106.symm.trans eh105_111_43 : x106.toInt = x104.toInt)
      exact ex_reti oq_X12_weeks_87 rfl (hQ x106 h105 Th105 (pp_fr0 (by decide +kernel) hP Fh105) Fh105 (by omega))
    · refine ex_al oq_X12_weeks_40 g0 ?_
      refine ex_il oq_X12_weeks_41 g2 ?_
      have Ph : cw_PP G h := pp_fr0 (by decide +kernel) hP Fh
      refine ex_cv oq_X12_weeks_42 (by decide) hT (k := 111) (d := 12) (as := [cv_i I]) (stk := []) rfl rfl rfl rfl rfl rfl ⟨rfl, rfl⟩ (cw_HX hz_X12_loads rfl (cw_Xok_no2 hX) ⟨hT, Ph⟩ ⟨.inl ⟨by decide, 111, rfl, rfl⟩, ⟨_, rfl, by show (0 : Int) ≤ _; omega, by show _ ≤ (3 : Int); omega, cw_tg0⟩, trivial⟩ (fun t ht => absurd ht List.not_mem_nil)) (fun ox108 hox108 => ?_)
      obtain ⟨h107, rfl, Th107, Ph107, Ch107⟩ := po_non hox108 rfl
      show cw_X _ _ _ _ _ [] h107
      have Fh107 : cw_Fr cw_Ds cw_sh kk_X12_weeks.2.2.2.2.2.1 h0 h107 := cw_Fr_tr Fh (cw_Fr_mono (by decide +kernel) Ch107)
      have eh107_111_43 : ri_at h107 111 43 = w := (ri_frf Ch107 (k := 111) (d := 12) rfl rfl (by decide +kernel)).trans hw
      refine ex_al oq_X12_weeks_45 g0 ?_
      refine ex_il oq_X12_weeks_46 g2 ?_
      refine ex_il oq_X12_weeks_47 g1 ?_
      have Ph107 : cw_PP G h107 := pp_fr0 (by decide +kernel) hP Fh107
      refine ex_cv oq_X12_weeks_48 (by decide) Th107 (k := 111) (d := 12) (as := [cv_i I, cv_i n]) (stk := []) rfl rfl rfl rfl rfl rfl ⟨rfl, rfl⟩ (cw_HX hz_X12_goesOn rfl (cw_Xok_no2 hX) ⟨Th107, Ph107⟩ ⟨.inl ⟨by decide, 111, rfl, rfl⟩, ⟨_, rfl, by show (0 : Int) ≤ _; omega, by show _ ≤ (3 : Int); omega, ⟨fun q => absurd q (by decide), fun _ => ⟨by omega, by omega⟩, fun q => absurd q (by decide), fun q => absurd q (by decide)⟩⟩, ⟨_, rfl, by show (0 : Int) ≤ _; omega, by show _ ≤ (520 : Int); omega, cw_tg0⟩, trivial⟩ (fun t ht => absurd ht List.not_mem_nil)) (fun ox110 hox110 => ?_)
      obtain ⟨h109, rfl, Th109, Ph109, Ch109⟩ := po_non hox110 rfl
      show cw_X _ _ _ _ _ [] h109
      have Fh109 : cw_Fr cw_Ds cw_sh kk_X12_weeks.2.2.2.2.2.1 h0 h109 := cw_Fr_tr Fh107 (cw_Fr_mono (by decide +kernel) Ch109)
      have eh109_111_43 : ri_at h109 111 43 = w := (ri_frf Ch109 (k := 111) (d := 12) rfl rfl (by decide +kernel)).trans eh107_111_43
      clear eh107_111_43
      refine ex_al oq_X12_weeks_51 g0 ?_
      refine ex_gf oq_X12_weeks_52 Th109 (k := 111) (d := 12) rfl rfl (fr_state Th109) ?_
      refine ex_bi oq_X12_weeks_55 (m := 16) (by decide) (fun x111 hx111 => ?_)
      refine ex_il oq_X12_weeks_57 g2 ?_
      refine ex_mul oq_X12_weeks_58 (m := 16 * I.toInt) (by rw [hx111]) (by omega) (fun x112 hx112 => ?_)
      refine ex_al oq_X12_weeks_59 g0 ?_
      refine ex_gf oq_X12_weeks_60 Th109 (k := 111) (d := 12) rfl rfl (fr_now Th109) ?_
      refine ex_ic oq_X12_weeks_63 (m := 0) (by decide) (fun x113 hx113 => ?_)
      have Ph109 : cw_PP G h109 := pp_fr0 (by decide +kernel) hP Fh109
      refine ex_cs oq_X12_weeks_64 (by decide) (as := [cv_r 130, cv_i x112, cv_r 131, cv_i x113]) (stk := []) rfl rfl rfl ⟨rfl, rfl⟩ (cw_HX hz_X12_lays_1 rfl (cw_Xok_no2 hX) ⟨Th109, Ph109⟩ ⟨.inl ⟨by decide, 130, rfl, rfl⟩, ⟨_, rfl, by show (0 : Int) ≤ _; omega, by show _ ≤ (48 : Int); omega, cw_tg0⟩, .inl ⟨by decide, 131, rfl, rfl⟩, ⟨_, rfl, by show (0 : Int) ≤ _; omega, by show _ ≤ (0 : Int); omega, cw_tg0⟩, trivial⟩ (fun t ht => absurd ht List.not_mem_nil)) (fun ox115 hox115 => ?_)
      obtain ⟨h114, rfl, Th114, Ph114, Ch114⟩ := po_non hox115 rfl
      show cw_X _ _ _ _ _ [] h114
      have Fh114 : cw_Fr cw_Ds cw_sh kk_X12_weeks.2.2.2.2.2.1 h0 h114 := cw_Fr_tr Fh109 (cw_Fr_mono (by decide +kernel) Ch114)
      have eh114_111_43 : ri_at h114 111 43 = w := (ri_frf Ch114 (k := 111) (d := 12) rfl rfl (by decide +kernel)).trans eh109_111_43
      clear eh109_111_43
      refine ex_incA oq_X12_weeks_67 (v := I) (m := 1) g2 (by decide) (by omega) (fun L117 x116 hx116 gL117_2 kL117 => ?_)
      have gL117_0 : cv_get L117 0 = some (cv_r 111) := kL117 0 _ (by decide) (fun q => absurd q (by decide)) g0
      have gL117_1 : cv_get L117 1 = some (cv_i n) := kL117 1 _ (by decide) (fun _ => rfl) g1
      refine ex_go oq_X12_weeks_70 (t := 32) rfl rfl ?_
      exact ih (i + 1) L117 x116 h114 (by omega) Th114 Fh114 eh114_111_43 (by omega) gL117_0 gL117_1 gL117_2
set_option maxHeartbeats 8000000 in
theorem rt_weeks {h0 : cv_H} (hX : cw_Xok X) (hT : cw_T G h0) (hP : cw_PP G h0) (n : Int32) {w : Int} (hw : ri_at h0 111 43 = w) (hQ : ∀ (x : Int32) h', cw_T G h' → cw_PP G h' → cw_Fr cw_Ds cw_sh kk_X12_weeks.2.2.2.2.2.1 h0 h' → ((¬ (0 ≤ n.toInt ∧ n.toInt ≤ 520) ∨ 2000 < w + n.toInt) ∧ x.toInt = -1 ∧ ri_at h' 111 43 = w ∨ ((0 ≤ n.toInt ∧ n.toInt ≤ 520) ∧ w + n.toInt ≤ 2000) ∧ x.toInt = w + n.toInt ∧ ri_at h' 111 43 = w + n.toInt) → Q (some (cv_i x), h')) : cw_X X 221 Q 0 (cv_ent 0 [cv_r 111, cv_i n]) [] h0 := by
  have Fh0 : cw_Fr cw_Ds cw_sh kk_X12_weeks.2.2.2.2.2.1 h0 h0 := cw_Fr_refl
  refine ex_al oq_X12_weeks_0 rfl ?_
  refine ex_ic oq_X12_weeks_1 (m := 0) (by decide) (fun x301 hx301 => ?_)
  refine ex_pfi oq_X12_weeks_2 hT (k := 111) (d := 12) rfl rfl rfl (cw_i32 _).1 (cw_i32 _).2 (fun h302 Th302 wh302 => ?_)
  have Fh302 : cw_Fr cw_Ds cw_sh kk_X12_weeks.2.2.2.2.2.1 h0 h302 := cw_Fr_tr Fh0 (cw_Fr_wrf wh302 (k := 111) (d := 12) rfl rfl (by decide +kernel))
  have eh302_111_43 : ri_at h302 111 43 = w := (ri_ne wh302 (.inr (by decide))).trans hw
  refine ex_il oq_X12_weeks_5 rfl ?_
  refine ex_ic oq_X12_weeks_6 (m := 0) (by decide) (fun x303 hx303 => ?_)
  refine ex_si oq_X12_weeks_7 (m := 520) (by decide) (fun x304 hx304 => ?_)
  refine ex_cs oq_X12_weeks_10 (by decide) (as := [cv_i n, cv_i x303, cv_i x304]) (stk := []) rfl rfl rfl ⟨rfl, rfl⟩ (R := fun o => ∃ x : Int32, o = (some (cv_i x), h302) ∧ (x.toInt = 1 ∧ x303.toInt ≤ n.toInt ∧ n.toInt ≤ x304.toInt ∨ x.toInt = 0 ∧ (n.toInt < x303.toInt ∨ x304.toInt < n.toInt))) (rt_isIn n x303 x304 (fun x q => ⟨x, rfl, q⟩)) (fun o ho => ?_)
  obtain ⟨x305, rfl, dx305⟩ := ho
  show cw_X _ _ _ _ _ [cv_i x305] h302
  refine ex_if0 oq_X12_weeks_13 (t := 28) rfl rfl (fun (c306 : x305.toInt = 0) => ?_) (fun (c306 : ¬ (x305.toInt = 0)) => ?_)
  · refine ex_ic oq_X12_weeks_28 (m := (-1)) (by decide) (fun x307 hx307 => ?_)
    exact ex_reti oq_X12_weeks_29 rfl (hQ x307 h302 Th302 (pp_fr0 (by decide +kernel) hP Fh302) Fh302 (by omega))
  · refine ex_al oq_X12_weeks_16 rfl ?_
    obtain ⟨x308, ax308, rx308, lx308, ux308⟩ := fi_week Th302
    refine ex_gf oq_X12_weeks_17 Th302 (k := 111) (d := 12) rfl rfl ax308 ?_
    have rx308 := (rx308.symm.trans eh302_111_43 : x308.toInt = w)
    refine ex_il oq_X12_weeks_20 rfl ?_
    refine ex_add oq_X12_weeks_21 (by omega) (fun x309 hx309 => ?_)
    refine ex_si oq_X12_weeks_22 (m := 2000) (by decide) (fun x310 hx310 => ?_)
    refine ex_if oq_X12_weeks_25 (t := 30) rfl rfl (fun (c311 : x309.toInt ≤ x310.toInt) => ?_) (fun (c311 : ¬ (x309.toInt ≤ x310.toInt)) => ?_)
    · refine ex_ic oq_X12_weeks_30 (m := 0) (by decide) (fun x312 hx312 => ?_)
      refine ex_isA oq_X12_weeks_31 (fun L313 gL313_2 kL313 => ?_)
      have gL313_0 : cv_get L313 0 = some (cv_r 111) := kL313 0 _ (by decide) (fun q => absurd q (by decide)) rfl
      have gL313_1 : cv_get L313 1 = some (cv_i n) := kL313 1 _ (by decide) (fun _ => rfl) rfl
      exact wq_lp hX hP (w := w) (n := n) (by omega) (by omega) hQ 4 0 L313 x312 h302 (by omega) Th302 Fh302 eh302_111_43 (by omega) gL313_0 gL313_1 gL313_2
    · refine ex_ic oq_X12_weeks_28 (m := (-1)) (by decide) (fun x314 hx314 => ?_)
      exact ex_reti oq_X12_weeks_29 rfl (hQ x314 h302 Th302 (pp_fr0 (by decide +kernel) hP Fh302) Fh302 (by omega))
theorem oq_X12_keep_0 : cw_ho 270 0 (.aload_n 0) 1 0 0 0 := rfl
theorem oq_X12_keep_1 : cw_ho 270 1 (.iconst 0) 1 0 0 0 := rfl
theorem oq_X12_keep_2 : cw_ho 270 2 (.putfield 136) 3 12 2 0 := rfl
theorem oq_X12_keep_5 : cw_ho 270 5 (.aload_n 0) 1 0 0 0 := rfl
theorem oq_X12_keep_6 : cw_ho 270 6 (.iconst 1) 1 0 0 0 := rfl
theorem oq_X12_keep_7 : cw_ho 270 7 (.putfield 249) 3 12 66 2 := rfl
theorem oq_X12_keep_10 : cw_ho 270 10 (.aload_n 0) 1 0 0 0 := rfl
theorem oq_X12_keep_11 : cw_ho 270 11 (.aload_n 0) 1 0 0 0 := rfl
theorem oq_X12_keep_12 : cw_ho 270 12 (.getfield 240) 3 12 43 0 := rfl
theorem oq_X12_keep_15 : cw_ho 270 15 (.putfield 512) 3 12 67 0 := rfl
theorem oq_X12_keep_18 : cw_ho 270 18 (.iconst 0) 1 0 0 0 := rfl
theorem oq_X12_keep_19 : cw_ho 270 19 (.istore_n 1) 1 0 0 0 := rfl
theorem oq_X12_keep_20 : cw_ho 270 20 (.iload_n 1) 1 0 0 0 := rfl
theorem oq_X12_keep_21 : cw_ho 270 21 (.iconst 4) 1 0 0 0 := rfl
theorem oq_X12_keep_22 : cw_ho 270 22 (.if_icmp .ge 28) 3 0 0 0 := rfl
theorem oq_X12_keep_25 : cw_ho 270 25 (.aload_n 0) 1 0 0 0 := rfl
theorem oq_X12_keep_26 : cw_ho 270 26 (.getfield 127) 3 12 68 4 := rfl
theorem oq_X12_keep_29 : cw_ho 270 29 (.bipush 16) 2 0 0 0 := rfl
theorem oq_X12_keep_31 : cw_ho 270 31 (.iload_n 1) 1 0 0 0 := rfl
theorem oq_X12_keep_32 : cw_ho 270 32 (.imul) 1 0 0 0 := rfl
theorem oq_X12_keep_33 : cw_ho 270 33 (.aload_n 0) 1 0 0 0 := rfl
theorem oq_X12_keep_34 : cw_ho 270 34 (.getfield 69) 3 12 44 4 := rfl
theorem oq_X12_keep_37 : cw_ho 270 37 (.bipush 16) 2 0 0 0 := rfl
theorem oq_X12_keep_39 : cw_ho 270 39 (.iload_n 1) 1 0 0 0 := rfl
theorem oq_X12_keep_40 : cw_ho 270 40 (.imul) 1 0 0 0 := rfl
theorem oq_X12_keep_41 : cw_ho 270 41 (.invokestatic 236) 3 200 4 0 := rfl
theorem oq_X12_keep_44 : cw_ho 270 44 (.iinc 1 1) 3 0 0 0 := rfl
theorem oq_X12_keep_47 : cw_ho 270 47 (.goto (-27)) 3 0 0 0 := rfl
theorem oq_X12_keep_50 : cw_ho 270 50 (.aload_n 0) 1 0 0 0 := rfl
theorem oq_X12_keep_51 : cw_ho 270 51 (.getfield 240) 3 12 43 0 := rfl
theorem oq_X12_keep_54 : cw_ho 270 54 (.ireturn) 1 0 0 0 := rfl
set_option maxHeartbeats 8000000 in
theorem rt_keep {h0 : cv_H} (hX : cw_Xok X) (hT : cw_T G h0) (hP : cw_PP G h0) {w im kw : Int} (hw : ri_at h0 111 43 = w) (him : ri_at h0 111 66 = im) (hkw : ri_at h0 111 67 = kw) (hQ : ∀ (x : Int32) h', cw_T G h' → cw_PP G h' → cw_Fr cw_Ds cw_sh kk_X12_keep.2.2.2.2.2.1 h0 h' → (x.toInt = w ∧ ri_at h' 111 43 = w ∧ ri_at h' 111 66 = 1 ∧ ri_at h' 111 67 = w) → Q (some (cv_i x), h')) : cw_X X 270 Q 0 (cv_ent 0 [cv_r 111]) [] h0 := by
  have Fh0 : cw_Fr cw_Ds cw_sh kk_X12_keep.2.2.2.2.2.1 h0 h0 := cw_Fr_refl
  refine ex_al oq_X12_keep_0 rfl ?_
  refine ex_ic oq_X12_keep_1 (m := 0) (by decide) (fun x101 hx101 => ?_)
  refine ex_pfi oq_X12_keep_2 hT (k := 111) (d := 12) rfl rfl rfl (cw_i32 _).1 (cw_i32 _).2 (fun h102 Th102 wh102 => ?_)
  have Fh102 : cw_Fr cw_Ds cw_sh kk_X12_keep.2.2.2.2.2.1 h0 h102 := cw_Fr_tr Fh0 (cw_Fr_wrf wh102 (k := 111) (d := 12) rfl rfl (by decide +kernel))
  have eh102_111_43 : ri_at h102 111 43 = w := (ri_ne wh102 (.inr (by decide))).trans hw
  have eh102_111_66 : ri_at h102 111 66 = ri_at h0 111 66 := ri_ne wh102 (.inr (by decide))
  have eh102_111_67 : ri_at h102 111 67 = ri_at h0 111 67 := ri_ne wh102 (.inr (by decide))
  refine ex_al oq_X12_keep_5 rfl ?_
  refine ex_ic oq_X12_keep_6 (m := 1) (by decide) (fun x103 hx103 => ?_)
  refine ex_pfb oq_X12_keep_7 Th102 (k := 111) (d := 12) rfl rfl rfl (by omega) (by omega) (fun h104 Th104 wh104 => ?_)
  have Fh104 : cw_Fr cw_Ds cw_sh kk_X12_keep.2.2.2.2.2.1 h0 h104 := cw_Fr_tr Fh102 (cw_Fr_wrf wh104 (k := 111) (d := 12) rfl rfl (by decide +kernel))
  have eh104_111_43 : ri_at h104 111 43 = w := (ri_ne wh104 (.inr (by decide))).trans eh102_111_43
  clear eh102_111_43
  have eh104_111_66 : ri_at h104 111 66 = x103.toInt := ri_self wh104
  have eh104_111_67 : ri_at h104 111 67 = ri_at h0 111 67 := (ri_ne wh104 (.inr (by decide))).trans eh102_111_67
  clear eh102_111_67
  refine ex_al oq_X12_keep_10 rfl ?_
  refine ex_al oq_X12_keep_11 rfl ?_
  obtain ⟨x105, ax105, rx105, lx105, ux105⟩ := fi_week Th104
  refine ex_gf oq_X12_keep_12 Th104 (k := 111) (d := 12) rfl rfl ax105 ?_
  have rx105 := (rx105.symm.trans eh104_111_43 : x105.toInt = w)
  refine ex_pfi oq_X12_keep_15 Th104 (k := 111) (d := 12) rfl rfl rfl (by omega) (by omega) (fun h106 Th106 wh106 => ?_)
  have Fh106 : cw_Fr cw_Ds cw_sh kk_X12_keep.2.2.2.2.2.1 h0 h106 := cw_Fr_tr Fh104 (cw_Fr_wrf wh106 (k := 111) (d := 12) rfl rfl (by decide +kernel))
  have eh106_111_43 : ri_at h106 111 43 = w := (ri_ne wh106 (.inr (by decide))).trans eh104_111_43
  clear eh104_111_43
  have eh106_111_66 : ri_at h106 111 66 = x103.toInt := (ri_ne wh106 (.inr (by decide))).trans eh104_111_66
  clear eh104_111_66
  have eh106_111_67 : ri_at h106 111 67 = x105.toInt := ri_self wh106
  refine ex_ic oq_X12_keep_18 (m := 0) (by decide) (fun x107 hx107 => ?_)
  refine ex_isA oq_X12_keep_19 (fun L108 gL108_1 kL108 => ?_)
  have gL108_0 : cv_get L108 0 = some (cv_r 111) := kL108 0 _ (by decide) (fun _ => rfl) rfl
  refine ex_il oq_X12_keep_20 gL108_1 ?_
  refine ex_ic oq_X12_keep_21 (m := 4) (by decide) (fun x109 hx109 => ?_)
  refine ex_if oq_X12_keep_22 (t := 50) rfl rfl (fun (c110 : x109.toInt ≤ x107.toInt) => ?_) (fun (c110 : ¬ (x109.toInt ≤ x107.toInt)) => ?_)
  · exfalso; omega
  · refine ex_al oq_X12_keep_25 gL108_0 ?_
    refine ex_gf oq_X12_keep_26 Th106 (k := 111) (d := 12) rfl rfl (fr_keptState Th106) ?_
    refine ex_bi oq_X12_keep_29 (m := 16) (by decide) (fun x111 hx111 => ?_)
    refine ex_il oq_X12_keep_31 gL108_1 ?_
    refine ex_mul oq_X12_keep_32 (m := 16 * x107.toInt) (by rw [hx111]) (by omega) (fun x112 hx112 => ?_)
    refine ex_al oq_X12_keep_33 gL108_0 ?_
    refine ex_gf oq_X12_keep_34 Th106 (k := 111) (d := 12) rfl rfl (fr_state Th106) ?_
    refine ex_bi oq_X12_keep_37 (m := 16) (by decide) (fun x113 hx113 => ?_)
    refine ex_il oq_X12_keep_39 gL108_1 ?_
    refine ex_mul oq_X12_keep_40 (m := 16 * x107.toInt) (by rw [hx113]) (by omega) (fun x114 hx114 => ?_)
    have Ph106 : cw_PP G h106 := pp_fr0 (by decide +kernel) hP Fh106
    refine ex_cs oq_X12_keep_41 (by decide) (as := [cv_r 148, cv_i x112, cv_r 130, cv_i x114]) (stk := []) rfl rfl rfl ⟨rfl, rfl⟩ (cw_HX hz_X12_lays_6 rfl (cw_Xok_no2 hX) ⟨Th106, Ph106⟩ ⟨.inl ⟨by decide, 148, rfl, rfl⟩, ⟨_, rfl, by show (0 : Int) ≤ _; omega, by show _ ≤ (48 : Int); omega, cw_tg0⟩, .inl ⟨by decide, 130, rfl, rfl⟩, ⟨_, rfl, by show (0 : Int) ≤ _; omega, by show _ ≤ (48 : Int); omega, cw_tg0⟩, trivial⟩ (fun t ht => absurd ht List.not_mem_nil)) (fun ox116 hox116 => ?_)
    obtain ⟨h115, rfl, Th115, Ph115, Ch115⟩ := po_non hox116 rfl
    show cw_X _ _ _ _ _ [] h115
    have Fh115 : cw_Fr cw_Ds cw_sh kk_X12_keep.2.2.2.2.2.1 h0 h115 := cw_Fr_tr Fh106 (cw_Fr_mono (by decide +kernel) Ch115)
    have eh115_111_43 : ri_at h115 111 43 = w := (ri_frf Ch115 (k := 111) (d := 12) rfl rfl (by decide +kernel)).trans eh106_111_43
    clear eh106_111_43
    have eh115_111_66 : ri_at h115 111 66 = x103.toInt := (ri_frf Ch115 (k := 111) (d := 12) rfl rfl (by decide +kernel)).trans eh106_111_66
    clear eh106_111_66
    have eh115_111_67 : ri_at h115 111 67 = x105.toInt := (ri_frf Ch115 (k := 111) (d := 12) rfl rfl (by decide +kernel)).trans eh106_111_67
    clear eh106_111_67
    refine ex_incA oq_X12_keep_44 (v := x107) (m := 1) gL108_1 (by decide) (by omega) (fun L118 x117 hx117 gL118_1 kL118 => ?_)
    have gL118_0 : cv_get L118 0 = some (cv_r 111) := kL118 0 _ (by decide) (fun _ => rfl) gL108_0
    refine ex_go oq_X12_keep_47 (t := 20) rfl rfl ?_
    refine ex_il oq_X12_keep_20 gL118_1 ?_
    refine ex_ic oq_X12_keep_21 (m := 4) (by decide) (fun x119 hx119 => ?_)
    refine ex_if oq_X12_keep_22 (t := 50) rfl rfl (fun (c120 : x119.toInt ≤ x117.toInt) => ?_) (fun (c120 : ¬ (x119.toInt ≤ x117.toInt)) => ?_)
    · exfalso; omega
    · refine ex_al oq_X12_keep_25 gL118_0 ?_
      refine ex_gf oq_X12_keep_26 Th115 (k := 111) (d := 12) rfl rfl (fr_keptState Th115) ?_
      refine ex_bi oq_X12_keep_29 (m := 16) (by decide) (fun x121 hx121 => ?_)
      refine ex_il oq_X12_keep_31 gL118_1 ?_
      refine ex_mul oq_X12_keep_32 (m := 16 * x117.toInt) (by rw [hx121]) (by omega) (fun x122 hx122 => ?_)
      refine ex_al oq_X12_keep_33 gL118_0 ?_
      refine ex_gf oq_X12_keep_34 Th115 (k := 111) (d := 12) rfl rfl (fr_state Th115) ?_
      refine ex_bi oq_X12_keep_37 (m := 16) (by decide) (fun x123 hx123 => ?_)
      refine ex_il oq_X12_keep_39 gL118_1 ?_
      refine ex_mul oq_X12_keep_40 (m := 16 * x117.toInt) (by rw [hx123]) (by omega) (fun x124 hx124 => ?_)
      have Ph115 : cw_PP G h115 := pp_fr0 (by decide +kernel) hP Fh115
      refine ex_cs oq_X12_keep_41 (by decide) (as := [cv_r 148, cv_i x122, cv_r 130, cv_i x124]) (stk := []) rfl rfl rfl ⟨rfl, rfl⟩ (cw_HX hz_X12_lays_6 rfl (cw_Xok_no2 hX) ⟨Th115, Ph115⟩ ⟨.inl ⟨by decide, 148, rfl, rfl⟩, ⟨_, rfl, by show (0 : Int) ≤ _; omega, by show _ ≤ (48 : Int); omega, cw_tg0⟩, .inl ⟨by decide, 130, rfl, rfl⟩, ⟨_, rfl, by show (0 : Int) ≤ _; omega, by show _ ≤ (48 : Int); omega, cw_tg0⟩, trivial⟩ (fun t ht => absurd ht List.not_mem_nil)) (fun ox126 hox126 => ?_)
      obtain ⟨h125, rfl, Th125, Ph125, Ch125⟩ := po_non hox126 rfl
      show cw_X _ _ _ _ _ [] h125
      have Fh125 : cw_Fr cw_Ds cw_sh kk_X12_keep.2.2.2.2.2.1 h0 h125 := cw_Fr_tr Fh115 (cw_Fr_mono (by decide +kernel) Ch125)
      have eh125_111_43 : ri_at h125 111 43 = w := (ri_frf Ch125 (k := 111) (d := 12) rfl rfl (by decide +kernel)).trans eh115_111_43
      clear eh115_111_43
      have eh125_111_66 : ri_at h125 111 66 = x103.toInt := (ri_frf Ch125 (k := 111) (d := 12) rfl rfl (by decide +kernel)).trans eh115_111_66
      clear eh115_111_66
      have eh125_111_67 : ri_at h125 111 67 = x105.toInt := (ri_frf Ch125 (k := 111) (d := 12) rfl rfl (by decide +kernel)).trans eh115_111_67
      clear eh115_111_67
      refine ex_incA oq_X12_keep_44 (v := x117) (m := 1) gL118_1 (by decide) (by omega) (fun L128 x127 hx127 gL128_1 kL128 => ?_)
      have gL128_0 : cv_get L128 0 = some (cv_r 111) := kL128 0 _ (by decide) (fun _ => rfl) gL118_0
      refine ex_go oq_X12_keep_47 (t := 20) rfl rfl ?_
      refine ex_il oq_X12_keep_20 gL128_1 ?_
      refine ex_ic oq_X12_keep_21 (m := 4) (by decide) (fun x129 hx129 => ?_)
      refine ex_if oq_X12_keep_22 (t := 50) rfl rfl (fun (c130 : x129.toInt ≤ x127.toInt) => ?_) (fun (c130 : ¬ (x129.toInt ≤ x127.toInt)) => ?_)
      · exfalso; omega
      · refine ex_al oq_X12_keep_25 gL128_0 ?_
        refine ex_gf oq_X12_keep_26 Th125 (k := 111) (d := 12) rfl rfl (fr_keptState Th125) ?_
        refine ex_bi oq_X12_keep_29 (m := 16) (by decide) (fun x131 hx131 => ?_)
        refine ex_il oq_X12_keep_31 gL128_1 ?_
        refine ex_mul oq_X12_keep_32 (m := 16 * x127.toInt) (by rw [hx131]) (by omega) (fun x132 hx132 => ?_)
        refine ex_al oq_X12_keep_33 gL128_0 ?_
        refine ex_gf oq_X12_keep_34 Th125 (k := 111) (d := 12) rfl rfl (fr_state Th125) ?_
        refine ex_bi oq_X12_keep_37 (m := 16) (by decide) (fun x133 hx133 => ?_)
        refine ex_il oq_X12_keep_39 gL128_1 ?_
        refine ex_mul oq_X12_keep_40 (m := 16 * x127.toInt) (by rw [hx133]) (by omega) (fun x134 hx134 => ?_)
        have Ph125 : cw_PP G h125 := pp_fr0 (by decide +kernel) hP Fh125
        refine ex_cs oq_X12_keep_41 (by decide) (as := [cv_r 148, cv_i x132, cv_r 130, cv_i x134]) (stk := []) rfl rfl rfl ⟨rfl, rfl⟩ (cw_HX hz_X12_lays_6 rfl (cw_Xok_no2 hX) ⟨Th125, Ph125⟩ ⟨.inl ⟨by decide, 148, rfl, rfl⟩, ⟨_, rfl, by show (0 : Int) ≤ _; omega, by show _ ≤ (48 : Int); omega, cw_tg0⟩, .inl ⟨by decide, 130, rfl, rfl⟩, ⟨_, rfl, by show (0 : Int) ≤ _; omega, by show _ ≤ (48 : Int); omega, cw_tg0⟩, trivial⟩ (fun t ht => absurd ht List.not_mem_nil)) (fun ox136 hox136 => ?_)
        obtain ⟨h135, rfl, Th135, Ph135, Ch135⟩ := po_non hox136 rfl
        show cw_X _ _ _ _ _ [] h135
        have Fh135 : cw_Fr cw_Ds cw_sh kk_X12_keep.2.2.2.2.2.1 h0 h135 := cw_Fr_tr Fh125 (cw_Fr_mono (by decide +kernel) Ch135)
        have eh135_111_43 : ri_at h135 111 43 = w := (ri_frf Ch135 (k := 111) (d := 12) rfl rfl (by decide +kernel)).trans eh125_111_43
        clear eh125_111_43
        have eh135_111_66 : ri_at h135 111 66 = x103.toInt := (ri_frf Ch135 (k := 111) (d := 12) rfl rfl (by decide +kernel)).trans eh125_111_66
        clear eh125_111_66
        have eh135_111_67 : ri_at h135 111 67 = x105.toInt := (ri_frf Ch135 (k := 111) (d := 12) rfl rfl (by decide +kernel)).trans eh125_111_67
        clear eh125_111_67
        refine ex_incA oq_X12_keep_44 (v := x127) (m := 1) gL128_1 (by decide) (by omega) (fun L138 x137 hx137 gL138_1 kL138 => ?_)
        have gL138_0 : cv_get L138 0 = some (cv_r 111) := kL138 0 _ (by decide) (fun _ => rfl) gL128_0
        refine ex_go oq_X12_keep_47 (t := 20) rfl rfl ?_
        refine ex_il oq_X12_keep_20 gL138_1 ?_
        refine ex_ic oq_X12_keep_21 (m := 4) (by decide) (fun x139 hx139 => ?_)
        refine ex_if oq_X12_keep_22 (t := 50) rfl rfl (fun (c140 : x139.toInt ≤ x137.toInt) => ?_) (fun (c140 : ¬ (x139.toInt ≤ x137.toInt)) => ?_)
        · exfalso; omega
        · refine ex_al oq_X12_keep_25 gL138_0 ?_
          refine ex_gf oq_X12_keep_26 Th135 (k := 111) (d := 12) rfl rfl (fr_keptState Th135) ?_
          refine ex_bi oq_X12_keep_29 (m := 16) (by decide) (fun x141 hx141 => ?_)
          refine ex_il oq_X12_keep_31 gL138_1 ?_
          refine ex_mul oq_X12_keep_32 (m := 16 * x137.toInt) (by rw [hx141]) (by omega) (fun x142 hx142 => ?_)
          refine ex_al oq_X12_keep_33 gL138_0 ?_
          refine ex_gf oq_X12_keep_34 Th135 (k := 111) (d := 12) rfl rfl (fr_state Th135) ?_
          refine ex_bi oq_X12_keep_37 (m := 16) (by decide) (fun x143 hx143 => ?_)
          refine ex_il oq_X12_keep_39 gL138_1 ?_
          refine ex_mul oq_X12_keep_40 (m := 16 * x137.toInt) (by rw [hx143]) (by omega) (fun x144 hx144 => ?_)
          have Ph135 : cw_PP G h135 := pp_fr0 (by decide +kernel) hP Fh135
          refine ex_cs oq_X12_keep_41 (by decide) (as := [cv_r 148, cv_i x142, cv_r 130, cv_i x144]) (stk := []) rfl rfl rfl ⟨rfl, rfl⟩ (cw_HX hz_X12_lays_6 rfl (cw_Xok_no2 hX) ⟨Th135, Ph135⟩ ⟨.inl ⟨by decide, 148, rfl, rfl⟩, ⟨_, rfl, by show (0 : Int) ≤ _; omega, by show _ ≤ (48 : Int); omega, cw_tg0⟩, .inl ⟨by decide, 130, rfl, rfl⟩, ⟨_, rfl, by show (0 : Int) ≤ _; omega, by show _ ≤ (48 : Int); omega, cw_tg0⟩, trivial⟩ (fun t ht => absurd ht List.not_mem_nil)) (fun ox146 hox146 => ?_)
          obtain ⟨h145, rfl, Th145, Ph145, Ch145⟩ := po_non hox146 rfl
          show cw_X _ _ _ _ _ [] h145
          have Fh145 : cw_Fr cw_Ds cw_sh kk_X12_keep.2.2.2.2.2.1 h0 h145 := cw_Fr_tr Fh135 (cw_Fr_mono (by decide +kernel) Ch145)
          have eh145_111_43 : ri_at h145 111 43 = w := (ri_frf Ch145 (k := 111) (d := 12) rfl rfl (by decide +kernel)).trans eh135_111_43
          clear eh135_111_43
          have eh145_111_66 : ri_at h145 111 66 = x103.toInt := (ri_frf Ch145 (k := 111) (d := 12) rfl rfl (by decide +kernel)).trans eh135_111_66
          clear eh135_111_66
          have eh145_111_67 : ri_at h145 111 67 = x105.toInt := (ri_frf Ch145 (k := 111) (d := 12) rfl rfl (by decide +kernel)).trans eh135_111_67
          clear eh135_111_67
          refine ex_incA oq_X12_keep_44 (v := x137) (m := 1) gL138_1 (by decide) (by omega) (fun L148 x147 hx147 gL148_1 kL148 => ?_)
          have gL148_0 : cv_get L148 0 = some (cv_r 111) := kL148 0 _ (by decide) (fun _ => rfl) gL138_0
          refine ex_go oq_X12_keep_47 (t := 20) rfl rfl ?_
          refine ex_il oq_X12_keep_20 gL148_1 ?_
          refine ex_ic oq_X12_keep_21 (m := 4) (by decide) (fun x149 hx149 => ?_)
          refine ex_if oq_X12_keep_22 (t := 50) rfl rfl (fun (c150 : x149.toInt ≤ x147.toInt) => ?_) (fun (c150 : ¬ (x149.toInt ≤ x147.toInt)) => ?_)
          · refine ex_al oq_X12_keep_50 gL148_0 ?_
            obtain ⟨x151, ax151, rx151, lx151, ux151⟩ := fi_week Th145
            refine ex_gf oq_X12_keep_51 Th145 (k := 111) (d := 12) rfl rfl ax151 ?_
            have rx151 := (rx151.symm.trans eh145_111_43 : x151.toInt = w)
            exact ex_reti oq_X12_keep_54 rfl (hQ x151 h145 Th145 (pp_fr0 (by decide +kernel) hP Fh145) Fh145 (by omega))
          · exfalso; omega
theorem oq_X12_back_0 : cw_ho 271 0 (.aload_n 0) 1 0 0 0 := rfl
theorem oq_X12_back_1 : cw_ho 271 1 (.iconst 0) 1 0 0 0 := rfl
theorem oq_X12_back_2 : cw_ho 271 2 (.putfield 136) 3 12 2 0 := rfl
theorem oq_X12_back_5 : cw_ho 271 5 (.aload_n 0) 1 0 0 0 := rfl
theorem oq_X12_back_6 : cw_ho 271 6 (.getfield 249) 3 12 66 2 := rfl
theorem oq_X12_back_9 : cw_ho 271 9 (.ifCond .ne 5) 3 0 0 0 := rfl
theorem oq_X12_back_12 : cw_ho 271 12 (.iconst (-1)) 1 0 0 0 := rfl
theorem oq_X12_back_13 : cw_ho 271 13 (.ireturn) 1 0 0 0 := rfl
theorem oq_X12_back_14 : cw_ho 271 14 (.aload_n 0) 1 0 0 0 := rfl
theorem oq_X12_back_15 : cw_ho 271 15 (.aload_n 0) 1 0 0 0 := rfl
theorem oq_X12_back_16 : cw_ho 271 16 (.getfield 512) 3 12 67 0 := rfl
theorem oq_X12_back_19 : cw_ho 271 19 (.putfield 240) 3 12 43 0 := rfl
theorem oq_X12_back_22 : cw_ho 271 22 (.iconst 0) 1 0 0 0 := rfl
theorem oq_X12_back_23 : cw_ho 271 23 (.istore_n 1) 1 0 0 0 := rfl
theorem oq_X12_back_24 : cw_ho 271 24 (.iload_n 1) 1 0 0 0 := rfl
theorem oq_X12_back_25 : cw_ho 271 25 (.iconst 4) 1 0 0 0 := rfl
theorem oq_X12_back_26 : cw_ho 271 26 (.if_icmp .ge 28) 3 0 0 0 := rfl
theorem oq_X12_back_29 : cw_ho 271 29 (.aload_n 0) 1 0 0 0 := rfl
theorem oq_X12_back_30 : cw_ho 271 30 (.getfield 69) 3 12 44 4 := rfl
theorem oq_X12_back_33 : cw_ho 271 33 (.bipush 16) 2 0 0 0 := rfl
theorem oq_X12_back_35 : cw_ho 271 35 (.iload_n 1) 1 0 0 0 := rfl
theorem oq_X12_back_36 : cw_ho 271 36 (.imul) 1 0 0 0 := rfl
theorem oq_X12_back_37 : cw_ho 271 37 (.aload_n 0) 1 0 0 0 := rfl
theorem oq_X12_back_38 : cw_ho 271 38 (.getfield 127) 3 12 68 4 := rfl
theorem oq_X12_back_41 : cw_ho 271 41 (.bipush 16) 2 0 0 0 := rfl
theorem oq_X12_back_43 : cw_ho 271 43 (.iload_n 1) 1 0 0 0 := rfl
theorem oq_X12_back_44 : cw_ho 271 44 (.imul) 1 0 0 0 := rfl
theorem oq_X12_back_45 : cw_ho 271 45 (.invokestatic 236) 3 200 4 0 := rfl
theorem oq_X12_back_48 : cw_ho 271 48 (.iinc 1 1) 3 0 0 0 := rfl
theorem oq_X12_back_51 : cw_ho 271 51 (.goto (-27)) 3 0 0 0 := rfl
theorem oq_X12_back_54 : cw_ho 271 54 (.aload_n 0) 1 0 0 0 := rfl
theorem oq_X12_back_55 : cw_ho 271 55 (.iconst 0) 1 0 0 0 := rfl
theorem oq_X12_back_56 : cw_ho 271 56 (.putfield 246) 3 12 50 0 := rfl
theorem oq_X12_back_59 : cw_ho 271 59 (.aload_n 0) 1 0 0 0 := rfl
theorem oq_X12_back_60 : cw_ho 271 60 (.getfield 240) 3 12 43 0 := rfl
theorem oq_X12_back_63 : cw_ho 271 63 (.ireturn) 1 0 0 0 := rfl
set_option maxHeartbeats 8000000 in
theorem rt_back {h0 : cv_H} (hX : cw_Xok X) (hT : cw_T G h0) (hP : cw_PP G h0) {w im kw : Int} (hw : ri_at h0 111 43 = w) (him : ri_at h0 111 66 = im) (hkw : ri_at h0 111 67 = kw) (hQ : ∀ (x : Int32) h', cw_T G h' → cw_PP G h' → cw_Fr cw_Ds cw_sh kk_X12_back.2.2.2.2.2.1 h0 h' → (im = 0 ∧ x.toInt = -1 ∧ ri_at h' 111 43 = w ∧ ri_at h' 111 66 = im ∧ ri_at h' 111 67 = kw ∨ ¬ im = 0 ∧ x.toInt = kw ∧ ri_at h' 111 43 = kw ∧ ri_at h' 111 66 = im ∧ ri_at h' 111 67 = kw) → Q (some (cv_i x), h')) : cw_X X 271 Q 0 (cv_ent 0 [cv_r 111]) [] h0 := by
  have Fh0 : cw_Fr cw_Ds cw_sh kk_X12_back.2.2.2.2.2.1 h0 h0 := cw_Fr_refl
  refine ex_al oq_X12_back_0 rfl ?_
  refine ex_ic oq_X12_back_1 (m := 0) (by decide) (fun x101 hx101 => ?_)
  refine ex_pfi oq_X12_back_2 hT (k := 111) (d := 12) rfl rfl rfl (cw_i32 _).1 (cw_i32 _).2 (fun h102 Th102 wh102 => ?_)
  have Fh102 : cw_Fr cw_Ds cw_sh kk_X12_back.2.2.2.2.2.1 h0 h102 := cw_Fr_tr Fh0 (cw_Fr_wrf wh102 (k := 111) (d := 12) rfl rfl (by decide +kernel))
  have eh102_111_43 : ri_at h102 111 43 = w := (ri_ne wh102 (.inr (by decide))).trans hw
  have eh102_111_66 : ri_at h102 111 66 = im := (ri_ne wh102 (.inr (by decide))).trans him
  have eh102_111_67 : ri_at h102 111 67 = kw := (ri_ne wh102 (.inr (by decide))).trans hkw
  refine ex_al oq_X12_back_5 rfl ?_
  obtain ⟨x103, ax103, rx103, lx103, ux103⟩ := fi_hasImage Th102
  refine ex_gf oq_X12_back_6 Th102 (k := 111) (d := 12) rfl rfl ax103 ?_
  have rx103 := (rx103.symm.trans eh102_111_66 : x103.toInt = im)
  refine ex_if0 oq_X12_back_9 (t := 14) rfl rfl (fun (c104 : ¬ x103.toInt = 0) => ?_) (fun (c104 : ¬ (¬ x103.toInt = 0)) => ?_)
  · refine ex_al oq_X12_back_14 rfl ?_
    refine ex_al oq_X12_back_15 rfl ?_
    obtain ⟨x105, ax105, rx105, lx105, ux105⟩ := fi_keptWeek Th102
    refine ex_gf oq_X12_back_16 Th102 (k := 111) (d := 12) rfl rfl ax105 ?_
    have rx105 := (rx105.symm.trans eh102_111_67 : x105.toInt = kw)
    refine ex_pfi oq_X12_back_19 Th102 (k := 111) (d := 12) rfl rfl rfl (by omega) (by omega) (fun h106 Th106 wh106 => ?_)
    have Fh106 : cw_Fr cw_Ds cw_sh kk_X12_back.2.2.2.2.2.1 h0 h106 := cw_Fr_tr Fh102 (cw_Fr_wrf wh106 (k := 111) (d := 12) rfl rfl (by decide +kernel))
    have eh106_111_43 : ri_at h106 111 43 = x105.toInt := ri_self wh106
    have eh106_111_66 : ri_at h106 111 66 = im := (ri_ne wh106 (.inr (by decide))).trans eh102_111_66
    clear eh102_111_66
    have eh106_111_67 : ri_at h106 111 67 = kw := (ri_ne wh106 (.inr (by decide))).trans eh102_111_67
    clear eh102_111_67
    refine ex_ic oq_X12_back_22 (m := 0) (by decide) (fun x107 hx107 => ?_)
    refine ex_isA oq_X12_back_23 (fun L108 gL108_1 kL108 => ?_)
    have gL108_0 : cv_get L108 0 = some (cv_r 111) := kL108 0 _ (by decide) (fun _ => rfl) rfl
    refine ex_il oq_X12_back_24 gL108_1 ?_
    refine ex_ic oq_X12_back_25 (m := 4) (by decide) (fun x109 hx109 => ?_)
    refine ex_if oq_X12_back_26 (t := 54) rfl rfl (fun (c110 : x109.toInt ≤ x107.toInt) => ?_) (fun (c110 : ¬ (x109.toInt ≤ x107.toInt)) => ?_)
    · exfalso; omega
    · refine ex_al oq_X12_back_29 gL108_0 ?_
      refine ex_gf oq_X12_back_30 Th106 (k := 111) (d := 12) rfl rfl (fr_state Th106) ?_
      refine ex_bi oq_X12_back_33 (m := 16) (by decide) (fun x111 hx111 => ?_)
      refine ex_il oq_X12_back_35 gL108_1 ?_
      refine ex_mul oq_X12_back_36 (m := 16 * x107.toInt) (by rw [hx111]) (by omega) (fun x112 hx112 => ?_)
      refine ex_al oq_X12_back_37 gL108_0 ?_
      refine ex_gf oq_X12_back_38 Th106 (k := 111) (d := 12) rfl rfl (fr_keptState Th106) ?_
      refine ex_bi oq_X12_back_41 (m := 16) (by decide) (fun x113 hx113 => ?_)
      refine ex_il oq_X12_back_43 gL108_1 ?_
      refine ex_mul oq_X12_back_44 (m := 16 * x107.toInt) (by rw [hx113]) (by omega) (fun x114 hx114 => ?_)
      have Ph106 : cw_PP G h106 := pp_fr0 (by decide +kernel) hP Fh106
      refine ex_cs oq_X12_back_45 (by decide) (as := [cv_r 130, cv_i x112, cv_r 148, cv_i x114]) (stk := []) rfl rfl rfl ⟨rfl, rfl⟩ (cw_HX hz_X12_lays_7 rfl (cw_Xok_no2 hX) ⟨Th106, Ph106⟩ ⟨.inl ⟨by decide, 130, rfl, rfl⟩, ⟨_, rfl, by show (0 : Int) ≤ _; omega, by show _ ≤ (48 : Int); omega, cw_tg0⟩, .inl ⟨by decide, 148, rfl, rfl⟩, ⟨_, rfl, by show (0 : Int) ≤ _; omega, by show _ ≤ (48 : Int); omega, cw_tg0⟩, trivial⟩ (fun t ht => absurd ht List.not_mem_nil)) (fun ox116 hox116 => ?_)
      obtain ⟨h115, rfl, Th115, Ph115, Ch115⟩ := po_non hox116 rfl
      show cw_X _ _ _ _ _ [] h115
      have Fh115 : cw_Fr cw_Ds cw_sh kk_X12_back.2.2.2.2.2.1 h0 h115 := cw_Fr_tr Fh106 (cw_Fr_mono (by decide +kernel) Ch115)
      have eh115_111_43 : ri_at h115 111 43 = x105.toInt := (ri_frf Ch115 (k := 111) (d := 12) rfl rfl (by decide +kernel)).trans eh106_111_43
      clear eh106_111_43
      have eh115_111_66 : ri_at h115 111 66 = im := (ri_frf Ch115 (k := 111) (d := 12) rfl rfl (by decide +kernel)).trans eh106_111_66
      clear eh106_111_66
      have eh115_111_67 : ri_at h115 111 67 = kw := (ri_frf Ch115 (k := 111) (d := 12) rfl rfl (by decide +kernel)).trans eh106_111_67
      clear eh106_111_67
      refine ex_incA oq_X12_back_48 (v := x107) (m := 1) gL108_1 (by decide) (by omega) (fun L118 x117 hx117 gL118_1 kL118 => ?_)
      have gL118_0 : cv_get L118 0 = some (cv_r 111) := kL118 0 _ (by decide) (fun _ => rfl) gL108_0
      refine ex_go oq_X12_back_51 (t := 24) rfl rfl ?_
      refine ex_il oq_X12_back_24 gL118_1 ?_
      refine ex_ic oq_X12_back_25 (m := 4) (by decide) (fun x119 hx119 => ?_)
      refine ex_if oq_X12_back_26 (t := 54) rfl rfl (fun (c120 : x119.toInt ≤ x117.toInt) => ?_) (fun (c120 : ¬ (x119.toInt ≤ x117.toInt)) => ?_)
      · exfalso; omega
      · refine ex_al oq_X12_back_29 gL118_0 ?_
        refine ex_gf oq_X12_back_30 Th115 (k := 111) (d := 12) rfl rfl (fr_state Th115) ?_
        refine ex_bi oq_X12_back_33 (m := 16) (by decide) (fun x121 hx121 => ?_)
        refine ex_il oq_X12_back_35 gL118_1 ?_
        refine ex_mul oq_X12_back_36 (m := 16 * x117.toInt) (by rw [hx121]) (by omega) (fun x122 hx122 => ?_)
        refine ex_al oq_X12_back_37 gL118_0 ?_
        refine ex_gf oq_X12_back_38 Th115 (k := 111) (d := 12) rfl rfl (fr_keptState Th115) ?_
        refine ex_bi oq_X12_back_41 (m := 16) (by decide) (fun x123 hx123 => ?_)
        refine ex_il oq_X12_back_43 gL118_1 ?_
        refine ex_mul oq_X12_back_44 (m := 16 * x117.toInt) (by rw [hx123]) (by omega) (fun x124 hx124 => ?_)
        have Ph115 : cw_PP G h115 := pp_fr0 (by decide +kernel) hP Fh115
        refine ex_cs oq_X12_back_45 (by decide) (as := [cv_r 130, cv_i x122, cv_r 148, cv_i x124]) (stk := []) rfl rfl rfl ⟨rfl, rfl⟩ (cw_HX hz_X12_lays_7 rfl (cw_Xok_no2 hX) ⟨Th115, Ph115⟩ ⟨.inl ⟨by decide, 130, rfl, rfl⟩, ⟨_, rfl, by show (0 : Int) ≤ _; omega, by show _ ≤ (48 : Int); omega, cw_tg0⟩, .inl ⟨by decide, 148, rfl, rfl⟩, ⟨_, rfl, by show (0 : Int) ≤ _; omega, by show _ ≤ (48 : Int); omega, cw_tg0⟩, trivial⟩ (fun t ht => absurd ht List.not_mem_nil)) (fun ox126 hox126 => ?_)
        obtain ⟨h125, rfl, Th125, Ph125, Ch125⟩ := po_non hox126 rfl
        show cw_X _ _ _ _ _ [] h125
        have Fh125 : cw_Fr cw_Ds cw_sh kk_X12_back.2.2.2.2.2.1 h0 h125 := cw_Fr_tr Fh115 (cw_Fr_mono (by decide +kernel) Ch125)
        have eh125_111_43 : ri_at h125 111 43 = x105.toInt := (ri_frf Ch125 (k := 111) (d := 12) rfl rfl (by decide +kernel)).trans eh115_111_43
        clear eh115_111_43
        have eh125_111_66 : ri_at h125 111 66 = im := (ri_frf Ch125 (k := 111) (d := 12) rfl rfl (by decide +kernel)).trans eh115_111_66
        clear eh115_111_66
        have eh125_111_67 : ri_at h125 111 67 = kw := (ri_frf Ch125 (k := 111) (d := 12) rfl rfl (by decide +kernel)).trans eh115_111_67
        clear eh115_111_67
        refine ex_incA oq_X12_back_48 (v := x117) (m := 1) gL118_1 (by decide) (by omega) (fun L128 x127 hx127 gL128_1 kL128 => ?_)
        have gL128_0 : cv_get L128 0 = some (cv_r 111) := kL128 0 _ (by decide) (fun _ => rfl) gL118_0
        refine ex_go oq_X12_back_51 (t := 24) rfl rfl ?_
        refine ex_il oq_X12_back_24 gL128_1 ?_
        refine ex_ic oq_X12_back_25 (m := 4) (by decide) (fun x129 hx129 => ?_)
        refine ex_if oq_X12_back_26 (t := 54) rfl rfl (fun (c130 : x129.toInt ≤ x127.toInt) => ?_) (fun (c130 : ¬ (x129.toInt ≤ x127.toInt)) => ?_)
        · exfalso; omega
        · refine ex_al oq_X12_back_29 gL128_0 ?_
          refine ex_gf oq_X12_back_30 Th125 (k := 111) (d := 12) rfl rfl (fr_state Th125) ?_
          refine ex_bi oq_X12_back_33 (m := 16) (by decide) (fun x131 hx131 => ?_)
          refine ex_il oq_X12_back_35 gL128_1 ?_
          refine ex_mul oq_X12_back_36 (m := 16 * x127.toInt) (by rw [hx131]) (by omega) (fun x132 hx132 => ?_)
          refine ex_al oq_X12_back_37 gL128_0 ?_
          refine ex_gf oq_X12_back_38 Th125 (k := 111) (d := 12) rfl rfl (fr_keptState Th125) ?_
          refine ex_bi oq_X12_back_41 (m := 16) (by decide) (fun x133 hx133 => ?_)
          refine ex_il oq_X12_back_43 gL128_1 ?_
          refine ex_mul oq_X12_back_44 (m := 16 * x127.toInt) (by rw [hx133]) (by omega) (fun x134 hx134 => ?_)
          have Ph125 : cw_PP G h125 := pp_fr0 (by decide +kernel) hP Fh125
          refine ex_cs oq_X12_back_45 (by decide) (as := [cv_r 130, cv_i x132, cv_r 148, cv_i x134]) (stk := []) rfl rfl rfl ⟨rfl, rfl⟩ (cw_HX hz_X12_lays_7 rfl (cw_Xok_no2 hX) ⟨Th125, Ph125⟩ ⟨.inl ⟨by decide, 130, rfl, rfl⟩, ⟨_, rfl, by show (0 : Int) ≤ _; omega, by show _ ≤ (48 : Int); omega, cw_tg0⟩, .inl ⟨by decide, 148, rfl, rfl⟩, ⟨_, rfl, by show (0 : Int) ≤ _; omega, by show _ ≤ (48 : Int); omega, cw_tg0⟩, trivial⟩ (fun t ht => absurd ht List.not_mem_nil)) (fun ox136 hox136 => ?_)
          obtain ⟨h135, rfl, Th135, Ph135, Ch135⟩ := po_non hox136 rfl
          show cw_X _ _ _ _ _ [] h135
          have Fh135 : cw_Fr cw_Ds cw_sh kk_X12_back.2.2.2.2.2.1 h0 h135 := cw_Fr_tr Fh125 (cw_Fr_mono (by decide +kernel) Ch135)
          have eh135_111_43 : ri_at h135 111 43 = x105.toInt := (ri_frf Ch135 (k := 111) (d := 12) rfl rfl (by decide +kernel)).trans eh125_111_43
          clear eh125_111_43
          have eh135_111_66 : ri_at h135 111 66 = im := (ri_frf Ch135 (k := 111) (d := 12) rfl rfl (by decide +kernel)).trans eh125_111_66
          clear eh125_111_66
          have eh135_111_67 : ri_at h135 111 67 = kw := (ri_frf Ch135 (k := 111) (d := 12) rfl rfl (by decide +kernel)).trans eh125_111_67
          clear eh125_111_67
          refine ex_incA oq_X12_back_48 (v := x127) (m := 1) gL128_1 (by decide) (by omega) (fun L138 x137 hx137 gL138_1 kL138 => ?_)
          have gL138_0 : cv_get L138 0 = some (cv_r 111) := kL138 0 _ (by decide) (fun _ => rfl) gL128_0
          refine ex_go oq_X12_back_51 (t := 24) rfl rfl ?_
          refine ex_il oq_X12_back_24 gL138_1 ?_
          refine ex_ic oq_X12_back_25 (m := 4) (by decide) (fun x139 hx139 => ?_)
          refine ex_if oq_X12_back_26 (t := 54) rfl rfl (fun (c140 : x139.toInt ≤ x137.toInt) => ?_) (fun (c140 : ¬ (x139.toInt ≤ x137.toInt)) => ?_)
          · exfalso; omega
          · refine ex_al oq_X12_back_29 gL138_0 ?_
            refine ex_gf oq_X12_back_30 Th135 (k := 111) (d := 12) rfl rfl (fr_state Th135) ?_
            refine ex_bi oq_X12_back_33 (m := 16) (by decide) (fun x141 hx141 => ?_)
            refine ex_il oq_X12_back_35 gL138_1 ?_
            refine ex_mul oq_X12_back_36 (m := 16 * x137.toInt) (by rw [hx141]) (by omega) (fun x142 hx142 => ?_)
            refine ex_al oq_X12_back_37 gL138_0 ?_
            refine ex_gf oq_X12_back_38 Th135 (k := 111) (d := 12) rfl rfl (fr_keptState Th135) ?_
            refine ex_bi oq_X12_back_41 (m := 16) (by decide) (fun x143 hx143 => ?_)
            refine ex_il oq_X12_back_43 gL138_1 ?_
            refine ex_mul oq_X12_back_44 (m := 16 * x137.toInt) (by rw [hx143]) (by omega) (fun x144 hx144 => ?_)
            have Ph135 : cw_PP G h135 := pp_fr0 (by decide +kernel) hP Fh135
            refine ex_cs oq_X12_back_45 (by decide) (as := [cv_r 130, cv_i x142, cv_r 148, cv_i x144]) (stk := []) rfl rfl rfl ⟨rfl, rfl⟩ (cw_HX hz_X12_lays_7 rfl (cw_Xok_no2 hX) ⟨Th135, Ph135⟩ ⟨.inl ⟨by decide, 130, rfl, rfl⟩, ⟨_, rfl, by show (0 : Int) ≤ _; omega, by show _ ≤ (48 : Int); omega, cw_tg0⟩, .inl ⟨by decide, 148, rfl, rfl⟩, ⟨_, rfl, by show (0 : Int) ≤ _; omega, by show _ ≤ (48 : Int); omega, cw_tg0⟩, trivial⟩ (fun t ht => absurd ht List.not_mem_nil)) (fun ox146 hox146 => ?_)
            obtain ⟨h145, rfl, Th145, Ph145, Ch145⟩ := po_non hox146 rfl
            show cw_X _ _ _ _ _ [] h145
            have Fh145 : cw_Fr cw_Ds cw_sh kk_X12_back.2.2.2.2.2.1 h0 h145 := cw_Fr_tr Fh135 (cw_Fr_mono (by decide +kernel) Ch145)
            have eh145_111_43 : ri_at h145 111 43 = x105.toInt := (ri_frf Ch145 (k := 111) (d := 12) rfl rfl (by decide +kernel)).trans eh135_111_43
            clear eh135_111_43
            have eh145_111_66 : ri_at h145 111 66 = im := (ri_frf Ch145 (k := 111) (d := 12) rfl rfl (by decide +kernel)).trans eh135_111_66
            clear eh135_111_66
            have eh145_111_67 : ri_at h145 111 67 = kw := (ri_frf Ch145 (k := 111) (d := 12) rfl rfl (by decide +kernel)).trans eh135_111_67
            clear eh135_111_67
            refine ex_incA oq_X12_back_48 (v := x137) (m := 1) gL138_1 (by decide) (by omega) (fun L148 x147 hx147 gL148_1 kL148 => ?_)
            have gL148_0 : cv_get L148 0 = some (cv_r 111) := kL148 0 _ (by decide) (fun _ => rfl) gL138_0
            refine ex_go oq_X12_back_51 (t := 24) rfl rfl ?_
            refine ex_il oq_X12_back_24 gL148_1 ?_
            refine ex_ic oq_X12_back_25 (m := 4) (by decide) (fun x149 hx149 => ?_)
            refine ex_if oq_X12_back_26 (t := 54) rfl rfl (fun (c150 : x149.toInt ≤ x147.toInt) => ?_) (fun (c150 : ¬ (x149.toInt ≤ x147.toInt)) => ?_)
            · refine ex_al oq_X12_back_54 gL148_0 ?_
              refine ex_ic oq_X12_back_55 (m := 0) (by decide) (fun x151 hx151 => ?_)
              refine ex_pfi oq_X12_back_56 Th145 (k := 111) (d := 12) rfl rfl rfl (by omega) (by omega) (fun h152 Th152 wh152 => ?_)
              have Fh152 : cw_Fr cw_Ds cw_sh kk_X12_back.2.2.2.2.2.1 h0 h152 := cw_Fr_tr Fh145 (cw_Fr_wrf wh152 (k := 111) (d := 12) rfl rfl (by decide +kernel))
              have eh152_111_43 : ri_at h152 111 43 = x105.toInt := (ri_ne wh152 (.inr (by decide))).trans eh145_111_43
              clear eh145_111_43
              have eh152_111_66 : ri_at h152 111 66 = im := (ri_ne wh152 (.inr (by decide))).trans eh145_111_66
              clear eh145_111_66
              have eh152_111_67 : ri_at h152 111 67 = kw := (ri_ne wh152 (.inr (by decide))).trans eh145_111_67
              clear eh145_111_67
              refine ex_al oq_X12_back_59 gL148_0 ?_
              obtain ⟨x153, ax153, rx153, lx153, ux153⟩ := fi_week Th152
              refine ex_gf oq_X12_back_60 Th152 (k := 111) (d := 12) rfl rfl ax153 ?_
              have rx153 := (rx153.symm.trans eh152_111_43 : x153.toInt = x105.toInt)
              exact ex_reti oq_X12_back_63 rfl (hQ x153 h152 Th152 (pp_fr0 (by decide +kernel) hP Fh152) Fh152 (by omega))
            · exfalso; omega
  · refine ex_ic oq_X12_back_12 (m := (-1)) (by decide) (fun x154 hx154 => ?_)
    exact ex_reti oq_X12_back_13 rfl (hQ x154 h102 Th102 (pp_fr0 (by decide +kernel) hP Fh102) Fh102 (by omega))
end TZ
